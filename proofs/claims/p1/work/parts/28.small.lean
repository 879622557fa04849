abbrev cX1_clear : ByteArray := prog_3_method_2_code
def yX1_clear : MethodName := ⟨RX1, "clear", "()V"⟩
abbrev cX1_isAgg : ByteArray := prog_3_method_9_code
def yX1_isAgg : MethodName := ⟨RX1, "isAgg", "(I)Z"⟩
abbrev cX1_columnCode : ByteArray := prog_3_method_15_code
def yX1_columnCode : MethodName := ⟨RX1, "columnCode", "(III)I"⟩
abbrev cX2_calculate : ByteArray := prog_4_method_16_code
def yX2_calculate : MethodName := ⟨RX2, "calculate", "(IJJ)J"⟩
abbrev cX2_holds : ByteArray := prog_4_method_17_code
def yX2_holds : MethodName := ⟨RX2, "holds", "(II)Z"⟩
abbrev cX5_isRedone : ByteArray := prog_7_method_11_code
def yX5_isRedone : MethodName := ⟨RX5, "isRedone", "()Z"⟩
abbrev cX6_isLetter : ByteArray := prog_8_method_5_code
def yX6_isLetter : MethodName := ⟨RX6, "isLetter", "(I)Z"⟩
abbrev cX6_isDigit : ByteArray := prog_8_method_6_code
def yX6_isDigit : MethodName := ⟨RX6, "isDigit", "(I)Z"⟩
abbrev cX6_last : ByteArray := prog_8_method_16_code
def yX6_last : MethodName := ⟨RX6, "last", "()I"⟩
def wsX1_columnCode : List Cond := .code yX1_columnCode cX1_columnCode 3 (some .int) :: ([])
def wsX1_isAgg : List Cond := .code yX1_isAgg cX1_isAgg 1 (some .boolean) :: ([])
def wsX1_clear : List Cond := .code yX1_clear cX1_clear 1 none :: ([.fieldLink RX1 60 "QueryHall$Code" "statement" "I", .fieldLink RX1 64 "QueryHall$Code" "count" "I", .fieldLink RX1 67 "QueryHall$Code" "nameCount" "I", .fieldLink RX1 70 "QueryHall$Code" "rootCount" "I", .fieldLink RX1 73 "QueryHall$Code" "rowCount" "I", .fieldLink RX1 76 "QueryHall$Code" "selectCount" "I", .fieldLink RX1 79 "QueryHall$Code" "target" "I", .fieldLink RX1 82 "QueryHall$Code" "top" "LQueryHall$Select;"] ++ wsX10)
def wsX2_calculate : List Cond := .code yX2_calculate cX2_calculate 5 (some .long) :: ([])
def wsX2_holds : List Cond := .code yX2_holds cX2_holds 2 (some .boolean) :: ([])
def wsX5_isRedone : List Cond := .code yX5_isRedone cX5_isRedone 1 (some .boolean) :: ([.fieldLink RX5 90 "QueryHall$Log" "redone" "I", .fieldLink RX5 93 "QueryHall$Log" "redoEnd" "I"] ++ wsX50)
def wsX6_isLetter : List Cond := .code yX6_isLetter cX6_isLetter 1 (some .boolean) :: ([])
def wsX6_isDigit : List Cond := .code yX6_isDigit cX6_isDigit 1 (some .boolean) :: ([])
def wsX6_last : List Cond := .code yX6_last cX6_last 1 (some .int) :: ([.fieldLink RX6 41 "QueryHall$Parser" "code" "LQueryHall$Code;", .fieldLink RX6 131 "QueryHall$Code" "count" "I"] ++ wsX60 ++ wsX10)
theorem dX1_clear_0 : decode cX1_clear 0 = .ok (.aload_n 0, 1) := by decide +kernel
theorem dX1_clear_1 : decode cX1_clear 1 = .ok (.iconst (-1), 1) := by decide +kernel
theorem dX1_clear_2 : decode cX1_clear 2 = .ok (.putfield 60, 3) := by decide +kernel
theorem dX1_clear_5 : decode cX1_clear 5 = .ok (.aload_n 0, 1) := by decide +kernel
theorem dX1_clear_6 : decode cX1_clear 6 = .ok (.iconst 0, 1) := by decide +kernel
theorem dX1_clear_7 : decode cX1_clear 7 = .ok (.putfield 64, 3) := by decide +kernel
theorem dX1_clear_10 : decode cX1_clear 10 = .ok (.aload_n 0, 1) := by decide +kernel
theorem dX1_clear_11 : decode cX1_clear 11 = .ok (.iconst 0, 1) := by decide +kernel
theorem dX1_clear_12 : decode cX1_clear 12 = .ok (.putfield 67, 3) := by decide +kernel
theorem dX1_clear_15 : decode cX1_clear 15 = .ok (.aload_n 0, 1) := by decide +kernel
theorem dX1_clear_16 : decode cX1_clear 16 = .ok (.iconst 0, 1) := by decide +kernel
theorem dX1_clear_17 : decode cX1_clear 17 = .ok (.putfield 70, 3) := by decide +kernel
theorem dX1_clear_20 : decode cX1_clear 20 = .ok (.aload_n 0, 1) := by decide +kernel
theorem dX1_clear_21 : decode cX1_clear 21 = .ok (.iconst 0, 1) := by decide +kernel
theorem dX1_clear_22 : decode cX1_clear 22 = .ok (.putfield 73, 3) := by decide +kernel
theorem dX1_clear_25 : decode cX1_clear 25 = .ok (.aload_n 0, 1) := by decide +kernel
theorem dX1_clear_26 : decode cX1_clear 26 = .ok (.iconst 0, 1) := by decide +kernel
theorem dX1_clear_27 : decode cX1_clear 27 = .ok (.putfield 76, 3) := by decide +kernel
theorem dX1_clear_30 : decode cX1_clear 30 = .ok (.aload_n 0, 1) := by decide +kernel
theorem dX1_clear_31 : decode cX1_clear 31 = .ok (.iconst (-1), 1) := by decide +kernel
theorem dX1_clear_32 : decode cX1_clear 32 = .ok (.putfield 79, 3) := by decide +kernel
theorem dX1_clear_35 : decode cX1_clear 35 = .ok (.aload_n 0, 1) := by decide +kernel
theorem dX1_clear_36 : decode cX1_clear 36 = .ok (.aconst_null, 1) := by decide +kernel
theorem dX1_clear_37 : decode cX1_clear 37 = .ok (.putfield 82, 3) := by decide +kernel
theorem dX1_clear_40 : decode cX1_clear 40 = .ok (.return_, 1) := by decide +kernel
theorem dX1_isAgg_0 : decode cX1_isAgg 0 = .ok (.iload_n 0, 1) := by decide +kernel
theorem dX1_isAgg_1 : decode cX1_isAgg 1 = .ok (.iconst 4, 1) := by decide +kernel
theorem dX1_isAgg_2 : decode cX1_isAgg 2 = .ok (.if_icmp .lt 13, 3) := by decide +kernel
theorem dX1_isAgg_5 : decode cX1_isAgg 5 = .ok (.iload_n 0, 1) := by decide +kernel
theorem dX1_isAgg_6 : decode cX1_isAgg 6 = .ok (.bipush 8, 2) := by decide +kernel
theorem dX1_isAgg_8 : decode cX1_isAgg 8 = .ok (.if_icmp .gt 7, 3) := by decide +kernel
theorem dX1_isAgg_11 : decode cX1_isAgg 11 = .ok (.iconst 1, 1) := by decide +kernel
theorem dX1_isAgg_12 : decode cX1_isAgg 12 = .ok (.goto 4, 3) := by decide +kernel
theorem dX1_isAgg_15 : decode cX1_isAgg 15 = .ok (.iconst 0, 1) := by decide +kernel
theorem dX1_isAgg_16 : decode cX1_isAgg 16 = .ok (.ireturn, 1) := by decide +kernel
theorem dX1_columnCode_0 : decode cX1_columnCode 0 = .ok (.iload_n 0, 1) := by decide +kernel
theorem dX1_columnCode_1 : decode cX1_columnCode 1 = .ok (.iconst 3, 1) := by decide +kernel
theorem dX1_columnCode_2 : decode cX1_columnCode 2 = .ok (.imul, 1) := by decide +kernel
theorem dX1_columnCode_3 : decode cX1_columnCode 3 = .ok (.iload_n 1, 1) := by decide +kernel
theorem dX1_columnCode_4 : decode cX1_columnCode 4 = .ok (.iadd, 1) := by decide +kernel
theorem dX1_columnCode_5 : decode cX1_columnCode 5 = .ok (.iconst 3, 1) := by decide +kernel
theorem dX1_columnCode_6 : decode cX1_columnCode 6 = .ok (.ishl, 1) := by decide +kernel
theorem dX1_columnCode_7 : decode cX1_columnCode 7 = .ok (.iload_n 2, 1) := by decide +kernel
theorem dX1_columnCode_8 : decode cX1_columnCode 8 = .ok (.ior, 1) := by decide +kernel
theorem dX1_columnCode_9 : decode cX1_columnCode 9 = .ok (.ireturn, 1) := by decide +kernel
theorem dX2_calculate_0 : decode cX2_calculate 0 = .ok (.iload_n 0, 1) := by decide +kernel
theorem dX2_calculate_1 : decode cX2_calculate 1 = .ok (.tableswitch 57 15 18 #[31, 35, 39, 43], 31) := by decide +kernel
theorem dX2_calculate_32 : decode cX2_calculate 32 = .ok (.lload_n 1, 1) := by decide +kernel
theorem dX2_calculate_33 : decode cX2_calculate 33 = .ok (.lload_n 3, 1) := by decide +kernel
theorem dX2_calculate_34 : decode cX2_calculate 34 = .ok (.ladd, 1) := by decide +kernel
theorem dX2_calculate_35 : decode cX2_calculate 35 = .ok (.lreturn, 1) := by decide +kernel
theorem dX2_calculate_36 : decode cX2_calculate 36 = .ok (.lload_n 1, 1) := by decide +kernel
theorem dX2_calculate_37 : decode cX2_calculate 37 = .ok (.lload_n 3, 1) := by decide +kernel
theorem dX2_calculate_38 : decode cX2_calculate 38 = .ok (.lsub, 1) := by decide +kernel
theorem dX2_calculate_39 : decode cX2_calculate 39 = .ok (.lreturn, 1) := by decide +kernel
theorem dX2_calculate_40 : decode cX2_calculate 40 = .ok (.lload_n 1, 1) := by decide +kernel
theorem dX2_calculate_41 : decode cX2_calculate 41 = .ok (.lload_n 3, 1) := by decide +kernel
theorem dX2_calculate_42 : decode cX2_calculate 42 = .ok (.lmul, 1) := by decide +kernel
theorem dX2_calculate_43 : decode cX2_calculate 43 = .ok (.lreturn, 1) := by decide +kernel
theorem dX2_calculate_44 : decode cX2_calculate 44 = .ok (.lload_n 3, 1) := by decide +kernel
theorem dX2_calculate_45 : decode cX2_calculate 45 = .ok (.lconst 0, 1) := by decide +kernel
theorem dX2_calculate_46 : decode cX2_calculate 46 = .ok (.lcmp, 1) := by decide +kernel
theorem dX2_calculate_47 : decode cX2_calculate 47 = .ok (.ifCond .ne 7, 3) := by decide +kernel
theorem dX2_calculate_50 : decode cX2_calculate 50 = .ok (.lconst 0, 1) := by decide +kernel
theorem dX2_calculate_51 : decode cX2_calculate 51 = .ok (.goto 6, 3) := by decide +kernel
theorem dX2_calculate_54 : decode cX2_calculate 54 = .ok (.lload_n 1, 1) := by decide +kernel
theorem dX2_calculate_55 : decode cX2_calculate 55 = .ok (.lload_n 3, 1) := by decide +kernel
theorem dX2_calculate_56 : decode cX2_calculate 56 = .ok (.ldiv, 1) := by decide +kernel
theorem dX2_calculate_57 : decode cX2_calculate 57 = .ok (.lreturn, 1) := by decide +kernel
theorem dX2_calculate_58 : decode cX2_calculate 58 = .ok (.lload_n 3, 1) := by decide +kernel
theorem dX2_calculate_59 : decode cX2_calculate 59 = .ok (.lconst 0, 1) := by decide +kernel
theorem dX2_calculate_60 : decode cX2_calculate 60 = .ok (.lcmp, 1) := by decide +kernel
theorem dX2_calculate_61 : decode cX2_calculate 61 = .ok (.ifCond .ne 7, 3) := by decide +kernel
theorem dX2_calculate_64 : decode cX2_calculate 64 = .ok (.lconst 0, 1) := by decide +kernel
theorem dX2_calculate_65 : decode cX2_calculate 65 = .ok (.goto 6, 3) := by decide +kernel
theorem dX2_calculate_68 : decode cX2_calculate 68 = .ok (.lload_n 1, 1) := by decide +kernel
theorem dX2_calculate_69 : decode cX2_calculate 69 = .ok (.lload_n 3, 1) := by decide +kernel
theorem dX2_calculate_70 : decode cX2_calculate 70 = .ok (.lrem, 1) := by decide +kernel
theorem dX2_calculate_71 : decode cX2_calculate 71 = .ok (.lreturn, 1) := by decide +kernel
theorem dX2_holds_0 : decode cX2_holds 0 = .ok (.iload_n 0, 1) := by decide +kernel
theorem dX2_holds_1 : decode cX2_holds 1 = .ok (.tableswitch 85 20 24 #[35, 45, 55, 65, 75], 35) := by decide +kernel
theorem dX2_holds_36 : decode cX2_holds 36 = .ok (.iload_n 1, 1) := by decide +kernel
theorem dX2_holds_37 : decode cX2_holds 37 = .ok (.ifCond .ne 7, 3) := by decide +kernel
theorem dX2_holds_40 : decode cX2_holds 40 = .ok (.iconst 1, 1) := by decide +kernel
theorem dX2_holds_41 : decode cX2_holds 41 = .ok (.goto 4, 3) := by decide +kernel
theorem dX2_holds_44 : decode cX2_holds 44 = .ok (.iconst 0, 1) := by decide +kernel
theorem dX2_holds_45 : decode cX2_holds 45 = .ok (.ireturn, 1) := by decide +kernel
theorem dX2_holds_46 : decode cX2_holds 46 = .ok (.iload_n 1, 1) := by decide +kernel
theorem dX2_holds_47 : decode cX2_holds 47 = .ok (.ifCond .eq 7, 3) := by decide +kernel
theorem dX2_holds_50 : decode cX2_holds 50 = .ok (.iconst 1, 1) := by decide +kernel
theorem dX2_holds_51 : decode cX2_holds 51 = .ok (.goto 4, 3) := by decide +kernel
theorem dX2_holds_54 : decode cX2_holds 54 = .ok (.iconst 0, 1) := by decide +kernel
theorem dX2_holds_55 : decode cX2_holds 55 = .ok (.ireturn, 1) := by decide +kernel
theorem dX2_holds_56 : decode cX2_holds 56 = .ok (.iload_n 1, 1) := by decide +kernel
theorem dX2_holds_57 : decode cX2_holds 57 = .ok (.ifCond .ge 7, 3) := by decide +kernel
theorem dX2_holds_60 : decode cX2_holds 60 = .ok (.iconst 1, 1) := by decide +kernel
theorem dX2_holds_61 : decode cX2_holds 61 = .ok (.goto 4, 3) := by decide +kernel
theorem dX2_holds_64 : decode cX2_holds 64 = .ok (.iconst 0, 1) := by decide +kernel
theorem dX2_holds_65 : decode cX2_holds 65 = .ok (.ireturn, 1) := by decide +kernel
theorem dX2_holds_66 : decode cX2_holds 66 = .ok (.iload_n 1, 1) := by decide +kernel
theorem dX2_holds_67 : decode cX2_holds 67 = .ok (.ifCond .gt 7, 3) := by decide +kernel
theorem dX2_holds_70 : decode cX2_holds 70 = .ok (.iconst 1, 1) := by decide +kernel
theorem dX2_holds_71 : decode cX2_holds 71 = .ok (.goto 4, 3) := by decide +kernel
theorem dX2_holds_74 : decode cX2_holds 74 = .ok (.iconst 0, 1) := by decide +kernel
theorem dX2_holds_75 : decode cX2_holds 75 = .ok (.ireturn, 1) := by decide +kernel
theorem dX2_holds_76 : decode cX2_holds 76 = .ok (.iload_n 1, 1) := by decide +kernel
theorem dX2_holds_77 : decode cX2_holds 77 = .ok (.ifCond .le 7, 3) := by decide +kernel
theorem dX2_holds_80 : decode cX2_holds 80 = .ok (.iconst 1, 1) := by decide +kernel
theorem dX2_holds_81 : decode cX2_holds 81 = .ok (.goto 4, 3) := by decide +kernel
theorem dX2_holds_84 : decode cX2_holds 84 = .ok (.iconst 0, 1) := by decide +kernel
theorem dX2_holds_85 : decode cX2_holds 85 = .ok (.ireturn, 1) := by decide +kernel
theorem dX2_holds_86 : decode cX2_holds 86 = .ok (.iload_n 1, 1) := by decide +kernel
theorem dX2_holds_87 : decode cX2_holds 87 = .ok (.ifCond .lt 7, 3) := by decide +kernel
theorem dX2_holds_90 : decode cX2_holds 90 = .ok (.iconst 1, 1) := by decide +kernel
theorem dX2_holds_91 : decode cX2_holds 91 = .ok (.goto 4, 3) := by decide +kernel
theorem dX2_holds_94 : decode cX2_holds 94 = .ok (.iconst 0, 1) := by decide +kernel
theorem dX2_holds_95 : decode cX2_holds 95 = .ok (.ireturn, 1) := by decide +kernel
theorem dX5_isRedone_0 : decode cX5_isRedone 0 = .ok (.aload_n 0, 1) := by decide +kernel
theorem dX5_isRedone_1 : decode cX5_isRedone 1 = .ok (.getfield 90, 3) := by decide +kernel
theorem dX5_isRedone_4 : decode cX5_isRedone 4 = .ok (.aload_n 0, 1) := by decide +kernel
theorem dX5_isRedone_5 : decode cX5_isRedone 5 = .ok (.getfield 93, 3) := by decide +kernel
theorem dX5_isRedone_8 : decode cX5_isRedone 8 = .ok (.if_icmp .lt 7, 3) := by decide +kernel
theorem dX5_isRedone_11 : decode cX5_isRedone 11 = .ok (.iconst 1, 1) := by decide +kernel
theorem dX5_isRedone_12 : decode cX5_isRedone 12 = .ok (.goto 4, 3) := by decide +kernel
theorem dX5_isRedone_15 : decode cX5_isRedone 15 = .ok (.iconst 0, 1) := by decide +kernel
theorem dX5_isRedone_16 : decode cX5_isRedone 16 = .ok (.ireturn, 1) := by decide +kernel
theorem dX6_isLetter_0 : decode cX6_isLetter 0 = .ok (.iload_n 0, 1) := by decide +kernel
theorem dX6_isLetter_1 : decode cX6_isLetter 1 = .ok (.bipush 97, 2) := by decide +kernel
theorem dX6_isLetter_3 : decode cX6_isLetter 3 = .ok (.if_icmp .lt 13, 3) := by decide +kernel
theorem dX6_isLetter_6 : decode cX6_isLetter 6 = .ok (.iload_n 0, 1) := by decide +kernel
theorem dX6_isLetter_7 : decode cX6_isLetter 7 = .ok (.bipush 122, 2) := by decide +kernel
theorem dX6_isLetter_9 : decode cX6_isLetter 9 = .ok (.if_icmp .gt 7, 3) := by decide +kernel
theorem dX6_isLetter_12 : decode cX6_isLetter 12 = .ok (.iconst 1, 1) := by decide +kernel
theorem dX6_isLetter_13 : decode cX6_isLetter 13 = .ok (.goto 4, 3) := by decide +kernel
theorem dX6_isLetter_16 : decode cX6_isLetter 16 = .ok (.iconst 0, 1) := by decide +kernel
theorem dX6_isLetter_17 : decode cX6_isLetter 17 = .ok (.ireturn, 1) := by decide +kernel
theorem dX6_isDigit_0 : decode cX6_isDigit 0 = .ok (.iload_n 0, 1) := by decide +kernel
theorem dX6_isDigit_1 : decode cX6_isDigit 1 = .ok (.bipush 48, 2) := by decide +kernel
theorem dX6_isDigit_3 : decode cX6_isDigit 3 = .ok (.if_icmp .lt 13, 3) := by decide +kernel
theorem dX6_isDigit_6 : decode cX6_isDigit 6 = .ok (.iload_n 0, 1) := by decide +kernel
theorem dX6_isDigit_7 : decode cX6_isDigit 7 = .ok (.bipush 57, 2) := by decide +kernel
theorem dX6_isDigit_9 : decode cX6_isDigit 9 = .ok (.if_icmp .gt 7, 3) := by decide +kernel
theorem dX6_isDigit_12 : decode cX6_isDigit 12 = .ok (.iconst 1, 1) := by decide +kernel
theorem dX6_isDigit_13 : decode cX6_isDigit 13 = .ok (.goto 4, 3) := by decide +kernel
theorem dX6_isDigit_16 : decode cX6_isDigit 16 = .ok (.iconst 0, 1) := by decide +kernel
theorem dX6_isDigit_17 : decode cX6_isDigit 17 = .ok (.ireturn, 1) := by decide +kernel
theorem dX6_last_0 : decode cX6_last 0 = .ok (.aload_n 0, 1) := by decide +kernel
theorem dX6_last_1 : decode cX6_last 1 = .ok (.getfield 41, 3) := by decide +kernel
theorem dX6_last_4 : decode cX6_last 4 = .ok (.getfield 131, 3) := by decide +kernel
theorem dX6_last_7 : decode cX6_last 7 = .ok (.iconst 1, 1) := by decide +kernel
theorem dX6_last_8 : decode cX6_last 8 = .ok (.isub, 1) := by decide +kernel
theorem dX6_last_9 : decode cX6_last 9 = .ok (.ireturn, 1) := by decide +kernel

theorem qh_cmp0 {x : Int64} (h : ¬ lg_cmp x 0 = 0) : ¬ x = 0 := fun q => h (by rw [q]; rfl)
set_option maxHeartbeats 4000000 in
set_option maxRecDepth 100000 in
/-- isLetter -/
theorem c_X6_isLetter (l : Launch) (dC : Nat → ClassId) (dI : Nat → Nat → Nat) (sz : Nat) (p0 : Int32) : Met l yX6_isLetter wsX6_isLetter ({ frames := 0, cells := 0, slots := 0, locals := 0 }) (va_Pc [.int p0] (fun U => U.heap.size = sz ∧ va_P (dC, dI) vwCl [] U.heap ∧ va_K (dC, dI) vwCl [] U ∧ va_D (fun _ => True) [])) (va_Qi (fun (r : Int32) (_ : Unit) => r = (if p0 < 97 then 0 else if 122 < p0 then 0 else 1)) (fun (_ : Unit) (t : State) => va_P (dC, dI) vwCl [] t.heap ∧ va_K (dC, dI) vwCl [] t ∧ va_D (va_A [] sz) []) (va_A [] sz)) 0 0 (va_A [] sz) := by
  refine Met.ofW (cc := cX6_isLetter) (maxL := 1) (ret := (some .boolean)) (by decide) rfl ?_
  intro p e s m args below meth c s₁ B hml hv
  obtain ⟨rfl, hsz, hP, hK, hD0⟩ := hv
  have hx := B.exec
  have hb := B.bytes
  have hr := B.returns
  have hts := atoms_spec (ws := wsX6_isLetter) B.pre
  have hown : s.vm.findClass RX6 = some m.cls := findClass_of_methodNamed B.named
  have hlocks := B.notSynchronized
  subst hsz
  have hD := hD0.self (sz := s.heap.size)
  generalize hAe : va_A [] s.heap.size = A at hD ⊢
  have hA : ∀ q : Nat, s.heap.size ≤ q → A q := fun q h => by rw [← hAe]; exact Or.inr h
  have hS : va_S A s.heap s.heap [] := va_S.rf
  have hP : va_P (dC, dI) vwCl [] s.heap := hP
  have hl := lv_entry ([.int p0]) (n := 1) (Nat.le_of_ble_eq_true rfl)
  rw [lg_entry_eq]
  generalize (lg_sl ([.int p0]) ++ List.replicate (1 - (lg_sl ([.int p0])).length) Slot.unset).toArray = ls at hl ⊢
  have hl : lv_has ls 1 [(0, .int p0)] := hl
  refine lv_iload_n hx hb dX6_isLetter_0 rfl (lv_at hl 0 rfl) ?_
  refine lv_bipush (v := 97) hx hb dX6_isLetter_1 (by decide) ?_
  refine lv_icmp_lt (tgt := 16) hx hb dX6_isLetter_3 (by decide) (fun c_1 => ?_) (fun c_1 => ?_)
  · skip
    refine lv_iconst (v := 0) hx hb dX6_isLetter_16 (by decide) ?_
    have hP9 := hP.sub (ws' := []) [] rfl
    have hD9 := hD.sub (ws' := []) [] (by decide) rfl
    have hK9 := hK.sub (tys' := []) [] rfl
    exact W.zret (v := 0) hx hb hr rfl (fun t ht hW => ⟨⟨0, (), rfl, (by skip; try (first | rw [if_pos c_1] | rw [if_neg c_1]); try rfl), by rw [ht]; exact hP9, va_K.moved hW.alike hK9, hD9⟩, hS.F ht⟩) hS.2.2 dX6_isLetter_17
  · skip
    refine lv_iload_n hx hb dX6_isLetter_6 rfl (lv_at hl 0 rfl) ?_
    refine lv_bipush (v := 122) hx hb dX6_isLetter_7 (by decide) ?_
    refine lv_icmp_gt (tgt := 16) hx hb dX6_isLetter_9 (by decide) (fun c_2 => ?_) (fun c_2 => ?_)
    · skip
      refine lv_iconst (v := 0) hx hb dX6_isLetter_16 (by decide) ?_
      have hP9 := hP.sub (ws' := []) [] rfl
      have hD9 := hD.sub (ws' := []) [] (by decide) rfl
      have hK9 := hK.sub (tys' := []) [] rfl
      exact W.zret (v := 0) hx hb hr rfl (fun t ht hW => ⟨⟨0, (), rfl, (by skip; try (first | rw [if_pos c_1] | rw [if_neg c_1]); try (first | rw [if_pos c_2] | rw [if_neg c_2]); try rfl), by rw [ht]; exact hP9, va_K.moved hW.alike hK9, hD9⟩, hS.F ht⟩) hS.2.2 dX6_isLetter_17
    · skip
      refine lv_iconst (v := 1) hx hb dX6_isLetter_12 (by decide) ?_
      refine lv_goto (tgt := 17) hx hb dX6_isLetter_13 (by decide) ?_
      have hP9 := hP.sub (ws' := []) [] rfl
      have hD9 := hD.sub (ws' := []) [] (by decide) rfl
      have hK9 := hK.sub (tys' := []) [] rfl
      exact W.zret (v := 1) hx hb hr rfl (fun t ht hW => ⟨⟨1, (), rfl, (by skip; try (first | rw [if_pos c_1] | rw [if_neg c_1]); try (first | rw [if_pos c_2] | rw [if_neg c_2]); try rfl), by rw [ht]; exact hP9, va_K.moved hW.alike hK9, hD9⟩, hS.F ht⟩) hS.2.2 dX6_isLetter_17
set_option maxHeartbeats 4000000 in
set_option maxRecDepth 100000 in
/-- isDigit -/
theorem c_X6_isDigit (l : Launch) (dC : Nat → ClassId) (dI : Nat → Nat → Nat) (sz : Nat) (p0 : Int32) : Met l yX6_isDigit wsX6_isDigit ({ frames := 0, cells := 0, slots := 0, locals := 0 }) (va_Pc [.int p0] (fun U => U.heap.size = sz ∧ va_P (dC, dI) vwCl [] U.heap ∧ va_K (dC, dI) vwCl [] U ∧ va_D (fun _ => True) [])) (va_Qi (fun (r : Int32) (_ : Unit) => r = (if p0 < 48 then 0 else if 57 < p0 then 0 else 1)) (fun (_ : Unit) (t : State) => va_P (dC, dI) vwCl [] t.heap ∧ va_K (dC, dI) vwCl [] t ∧ va_D (va_A [] sz) []) (va_A [] sz)) 0 0 (va_A [] sz) := by
  refine Met.ofW (cc := cX6_isDigit) (maxL := 1) (ret := (some .boolean)) (by decide) rfl ?_
  intro p e s m args below meth c s₁ B hml hv
  obtain ⟨rfl, hsz, hP, hK, hD0⟩ := hv
  have hx := B.exec
  have hb := B.bytes
  have hr := B.returns
  have hts := atoms_spec (ws := wsX6_isDigit) B.pre
  have hown : s.vm.findClass RX6 = some m.cls := findClass_of_methodNamed B.named
  have hlocks := B.notSynchronized
  subst hsz
  have hD := hD0.self (sz := s.heap.size)
  generalize hAe : va_A [] s.heap.size = A at hD ⊢
  have hA : ∀ q : Nat, s.heap.size ≤ q → A q := fun q h => by rw [← hAe]; exact Or.inr h
  have hS : va_S A s.heap s.heap [] := va_S.rf
  have hP : va_P (dC, dI) vwCl [] s.heap := hP
  have hl := lv_entry ([.int p0]) (n := 1) (Nat.le_of_ble_eq_true rfl)
  rw [lg_entry_eq]
  generalize (lg_sl ([.int p0]) ++ List.replicate (1 - (lg_sl ([.int p0])).length) Slot.unset).toArray = ls at hl ⊢
  have hl : lv_has ls 1 [(0, .int p0)] := hl
  refine lv_iload_n hx hb dX6_isDigit_0 rfl (lv_at hl 0 rfl) ?_
  refine lv_bipush (v := 48) hx hb dX6_isDigit_1 (by decide) ?_
  refine lv_icmp_lt (tgt := 16) hx hb dX6_isDigit_3 (by decide) (fun c_1 => ?_) (fun c_1 => ?_)
  · skip
    refine lv_iconst (v := 0) hx hb dX6_isDigit_16 (by decide) ?_
    have hP9 := hP.sub (ws' := []) [] rfl
    have hD9 := hD.sub (ws' := []) [] (by decide) rfl
    have hK9 := hK.sub (tys' := []) [] rfl
    exact W.zret (v := 0) hx hb hr rfl (fun t ht hW => ⟨⟨0, (), rfl, (by skip; try (first | rw [if_pos c_1] | rw [if_neg c_1]); try rfl), by rw [ht]; exact hP9, va_K.moved hW.alike hK9, hD9⟩, hS.F ht⟩) hS.2.2 dX6_isDigit_17
  · skip
    refine lv_iload_n hx hb dX6_isDigit_6 rfl (lv_at hl 0 rfl) ?_
    refine lv_bipush (v := 57) hx hb dX6_isDigit_7 (by decide) ?_
    refine lv_icmp_gt (tgt := 16) hx hb dX6_isDigit_9 (by decide) (fun c_2 => ?_) (fun c_2 => ?_)
    · skip
      refine lv_iconst (v := 0) hx hb dX6_isDigit_16 (by decide) ?_
      have hP9 := hP.sub (ws' := []) [] rfl
      have hD9 := hD.sub (ws' := []) [] (by decide) rfl
      have hK9 := hK.sub (tys' := []) [] rfl
      exact W.zret (v := 0) hx hb hr rfl (fun t ht hW => ⟨⟨0, (), rfl, (by skip; try (first | rw [if_pos c_1] | rw [if_neg c_1]); try (first | rw [if_pos c_2] | rw [if_neg c_2]); try rfl), by rw [ht]; exact hP9, va_K.moved hW.alike hK9, hD9⟩, hS.F ht⟩) hS.2.2 dX6_isDigit_17
    · skip
      refine lv_iconst (v := 1) hx hb dX6_isDigit_12 (by decide) ?_
      refine lv_goto (tgt := 17) hx hb dX6_isDigit_13 (by decide) ?_
      have hP9 := hP.sub (ws' := []) [] rfl
      have hD9 := hD.sub (ws' := []) [] (by decide) rfl
      have hK9 := hK.sub (tys' := []) [] rfl
      exact W.zret (v := 1) hx hb hr rfl (fun t ht hW => ⟨⟨1, (), rfl, (by skip; try (first | rw [if_pos c_1] | rw [if_neg c_1]); try (first | rw [if_pos c_2] | rw [if_neg c_2]); try rfl), by rw [ht]; exact hP9, va_K.moved hW.alike hK9, hD9⟩, hS.F ht⟩) hS.2.2 dX6_isDigit_17
set_option maxHeartbeats 4000000 in
set_option maxRecDepth 100000 in
/-- isAgg -/
theorem c_X1_isAgg (l : Launch) (dC : Nat → ClassId) (dI : Nat → Nat → Nat) (sz : Nat) (p0 : Int32) : Met l yX1_isAgg wsX1_isAgg ({ frames := 0, cells := 0, slots := 0, locals := 0 }) (va_Pc [.int p0] (fun U => U.heap.size = sz ∧ va_P (dC, dI) vwCl [] U.heap ∧ va_K (dC, dI) vwCl [] U ∧ va_D (fun _ => True) [])) (va_Qi (fun (r : Int32) (_ : Unit) => r = (if p0 < 4 then 0 else if 8 < p0 then 0 else 1)) (fun (_ : Unit) (t : State) => va_P (dC, dI) vwCl [] t.heap ∧ va_K (dC, dI) vwCl [] t ∧ va_D (va_A [] sz) []) (va_A [] sz)) 0 0 (va_A [] sz) := by
  refine Met.ofW (cc := cX1_isAgg) (maxL := 1) (ret := (some .boolean)) (by decide) rfl ?_
  intro p e s m args below meth c s₁ B hml hv
  obtain ⟨rfl, hsz, hP, hK, hD0⟩ := hv
  have hx := B.exec
  have hb := B.bytes
  have hr := B.returns
  have hts := atoms_spec (ws := wsX1_isAgg) B.pre
  have hown : s.vm.findClass RX1 = some m.cls := findClass_of_methodNamed B.named
  have hlocks := B.notSynchronized
  subst hsz
  have hD := hD0.self (sz := s.heap.size)
  generalize hAe : va_A [] s.heap.size = A at hD ⊢
  have hA : ∀ q : Nat, s.heap.size ≤ q → A q := fun q h => by rw [← hAe]; exact Or.inr h
  have hS : va_S A s.heap s.heap [] := va_S.rf
  have hP : va_P (dC, dI) vwCl [] s.heap := hP
  have hl := lv_entry ([.int p0]) (n := 1) (Nat.le_of_ble_eq_true rfl)
  rw [lg_entry_eq]
  generalize (lg_sl ([.int p0]) ++ List.replicate (1 - (lg_sl ([.int p0])).length) Slot.unset).toArray = ls at hl ⊢
  have hl : lv_has ls 1 [(0, .int p0)] := hl
  refine lv_iload_n hx hb dX1_isAgg_0 rfl (lv_at hl 0 rfl) ?_
  refine lv_iconst (v := 4) hx hb dX1_isAgg_1 (by decide) ?_
  refine lv_icmp_lt (tgt := 15) hx hb dX1_isAgg_2 (by decide) (fun c_1 => ?_) (fun c_1 => ?_)
  · skip
    refine lv_iconst (v := 0) hx hb dX1_isAgg_15 (by decide) ?_
    have hP9 := hP.sub (ws' := []) [] rfl
    have hD9 := hD.sub (ws' := []) [] (by decide) rfl
    have hK9 := hK.sub (tys' := []) [] rfl
    exact W.zret (v := 0) hx hb hr rfl (fun t ht hW => ⟨⟨0, (), rfl, (by skip; try (first | rw [if_pos c_1] | rw [if_neg c_1]); try rfl), by rw [ht]; exact hP9, va_K.moved hW.alike hK9, hD9⟩, hS.F ht⟩) hS.2.2 dX1_isAgg_16
  · skip
    refine lv_iload_n hx hb dX1_isAgg_5 rfl (lv_at hl 0 rfl) ?_
    refine lv_bipush (v := 8) hx hb dX1_isAgg_6 (by decide) ?_
    refine lv_icmp_gt (tgt := 15) hx hb dX1_isAgg_8 (by decide) (fun c_2 => ?_) (fun c_2 => ?_)
    · skip
      refine lv_iconst (v := 0) hx hb dX1_isAgg_15 (by decide) ?_
      have hP9 := hP.sub (ws' := []) [] rfl
      have hD9 := hD.sub (ws' := []) [] (by decide) rfl
      have hK9 := hK.sub (tys' := []) [] rfl
      exact W.zret (v := 0) hx hb hr rfl (fun t ht hW => ⟨⟨0, (), rfl, (by skip; try (first | rw [if_pos c_1] | rw [if_neg c_1]); try (first | rw [if_pos c_2] | rw [if_neg c_2]); try rfl), by rw [ht]; exact hP9, va_K.moved hW.alike hK9, hD9⟩, hS.F ht⟩) hS.2.2 dX1_isAgg_16
    · skip
      refine lv_iconst (v := 1) hx hb dX1_isAgg_11 (by decide) ?_
      refine lv_goto (tgt := 16) hx hb dX1_isAgg_12 (by decide) ?_
      have hP9 := hP.sub (ws' := []) [] rfl
      have hD9 := hD.sub (ws' := []) [] (by decide) rfl
      have hK9 := hK.sub (tys' := []) [] rfl
      exact W.zret (v := 1) hx hb hr rfl (fun t ht hW => ⟨⟨1, (), rfl, (by skip; try (first | rw [if_pos c_1] | rw [if_neg c_1]); try (first | rw [if_pos c_2] | rw [if_neg c_2]); try rfl), by rw [ht]; exact hP9, va_K.moved hW.alike hK9, hD9⟩, hS.F ht⟩) hS.2.2 dX1_isAgg_16
set_option maxHeartbeats 4000000 in
set_option maxRecDepth 100000 in
/-- isRedone() -/
theorem c_X5_isRedone (l : Launch) (dC : Nat → ClassId) (dI : Nat → Nat → Nat) (sz : Nat) (jo tb : Nat) (jk jt jn ju jp jb ja jl jr : Nat) (j10 j11 j12 j13 j14 j15 : Int32) : Met l yX5_isRedone wsX5_isRedone ({ frames := 0, cells := 0, slots := 0, locals := 0 }) (va_Pc [.ref jo] (fun U => U.heap.size = sz ∧ va_P (dC, dI) vwCl [(jo, .inr (10, [.ref tb, .ref jk, .ref jt, .ref jn, .ref ju, .ref jp, .ref jb, .ref ja, .ref jl, .ref jr, .int j10, .int j11, .int j12, .int j13, .int j14, .int j15]))] U.heap ∧ va_K (dC, dI) vwCl [] U ∧ va_D (fun _ => True) [(jo, .inr (10, [.ref tb, .ref jk, .ref jt, .ref jn, .ref ju, .ref jp, .ref jb, .ref ja, .ref jl, .ref jr, .int j10, .int j11, .int j12, .int j13, .int j14, .int j15]))])) (va_Qi (fun (r : Int32) (_ : Unit) => r = (if j14 < j15 then 0 else 1)) (fun (_ : Unit) (t : State) => va_P (dC, dI) vwCl [(jo, .inr (10, [.ref tb, .ref jk, .ref jt, .ref jn, .ref ju, .ref jp, .ref jb, .ref ja, .ref jl, .ref jr, .int j10, .int j11, .int j12, .int j13, .int j14, .int j15]))] t.heap ∧ va_K (dC, dI) vwCl [] t ∧ va_D (va_A [(jo, .inr (10, [.ref tb, .ref jk, .ref jt, .ref jn, .ref ju, .ref jp, .ref jb, .ref ja, .ref jl, .ref jr, .int j10, .int j11, .int j12, .int j13, .int j14, .int j15]))] sz) [(jo, .inr (10, [.ref tb, .ref jk, .ref jt, .ref jn, .ref ju, .ref jp, .ref jb, .ref ja, .ref jl, .ref jr, .int j10, .int j11, .int j12, .int j13, .int j14, .int j15]))]) (va_A [(jo, .inr (10, [.ref tb, .ref jk, .ref jt, .ref jn, .ref ju, .ref jp, .ref jb, .ref ja, .ref jl, .ref jr, .int j10, .int j11, .int j12, .int j13, .int j14, .int j15]))] sz)) 0 0 (va_A [(jo, .inr (10, [.ref tb, .ref jk, .ref jt, .ref jn, .ref ju, .ref jp, .ref jb, .ref ja, .ref jl, .ref jr, .int j10, .int j11, .int j12, .int j13, .int j14, .int j15]))] sz) := by
  refine Met.ofW (cc := cX5_isRedone) (maxL := 1) (ret := (some .boolean)) (by decide) rfl ?_
  intro p e s m args below meth c s₁ B hml hv
  obtain ⟨rfl, hsz, hP, hK, hD0⟩ := hv
  have hx := B.exec
  have hb := B.bytes
  have hr := B.returns
  have hts := atoms_spec (ws := wsX5_isRedone) B.pre
  have hown : s.vm.findClass RX5 = some m.cls := findClass_of_methodNamed B.named
  have hlocks := B.notSynchronized
  subst hsz
  have hD := hD0.self (sz := s.heap.size)
  generalize hAe : va_A [(jo, .inr (10, [.ref tb, .ref jk, .ref jt, .ref jn, .ref ju, .ref jp, .ref jb, .ref ja, .ref jl, .ref jr, .int j10, .int j11, .int j12, .int j13, .int j14, .int j15]))] s.heap.size = A at hD ⊢
  have hA : ∀ q : Nat, s.heap.size ≤ q → A q := fun q h => by rw [← hAe]; exact Or.inr h
  have hS : va_S A s.heap s.heap [] := va_S.rf
  have hP : va_P (dC, dI) vwCl [(jo, .inr (10, [.ref tb, .ref jk, .ref jt, .ref jn, .ref ju, .ref jp, .ref jb, .ref ja, .ref jl, .ref jr, .int j10, .int j11, .int j12, .int j13, .int j14, .int j15]))] s.heap := hP
  have hl := lv_entry ([.ref jo]) (n := 1) (Nat.le_of_ble_eq_true rfl)
  rw [lg_entry_eq]
  generalize (lg_sl ([.ref jo]) ++ List.replicate (1 - (lg_sl ([.ref jo])).length) Slot.unset).toArray = ls at hl ⊢
  have hl : lv_has ls 1 [(0, .ref jo)] := hl
  refine lv_aload_n hx hb dX5_isRedone_0 rfl (lv_at hl 0 rfl) ?_
  refine va_get (D := (dC, dI)) (ci := 10) (v := .int j14) (C := RX5) (T := TX5) (N := 16) hx hb hts (by decide +kernel) hown hK hP 0 rfl rfl 14 (by decide) (hts (.fieldLink RX5 90 "QueryHall$Log" "redone" "I") (by decide +kernel)) (fun _ h9 => h9) rfl dX5_isRedone_1 ?_
  refine lv_aload_n hx hb dX5_isRedone_4 rfl (lv_at hl 0 rfl) ?_
  refine va_get (D := (dC, dI)) (ci := 10) (v := .int j15) (C := RX5) (T := TX5) (N := 16) hx hb hts (by decide +kernel) hown hK hP 0 rfl rfl 15 (by decide) (hts (.fieldLink RX5 93 "QueryHall$Log" "redoEnd" "I") (by decide +kernel)) (fun _ h9 => h9) rfl dX5_isRedone_5 ?_
  refine lv_icmp_lt (tgt := 15) hx hb dX5_isRedone_8 (by decide) (fun c_1 => ?_) (fun c_1 => ?_)
  · skip
    refine lv_iconst (v := 0) hx hb dX5_isRedone_15 (by decide) ?_
    have hP9 := hP.sub (ws' := [(jo, .inr (10, [.ref tb, .ref jk, .ref jt, .ref jn, .ref ju, .ref jp, .ref jb, .ref ja, .ref jl, .ref jr, .int j10, .int j11, .int j12, .int j13, .int j14, .int j15]))]) [0] rfl
    have hD9 := hD.sub (ws' := [(jo, .inr (10, [.ref tb, .ref jk, .ref jt, .ref jn, .ref ju, .ref jp, .ref jb, .ref ja, .ref jl, .ref jr, .int j10, .int j11, .int j12, .int j13, .int j14, .int j15]))]) [0] (by decide) rfl
    have hK9 := hK.sub (tys' := []) [] rfl
    exact W.zret (v := 0) hx hb hr rfl (fun t ht hW => ⟨⟨0, (), rfl, (by skip; try (first | rw [if_pos c_1] | rw [if_neg c_1]); try rfl), by rw [ht]; exact hP9, va_K.moved hW.alike hK9, hD9⟩, hS.F ht⟩) hS.2.2 dX5_isRedone_16
  · skip
    refine lv_iconst (v := 1) hx hb dX5_isRedone_11 (by decide) ?_
    refine lv_goto (tgt := 16) hx hb dX5_isRedone_12 (by decide) ?_
    have hP9 := hP.sub (ws' := [(jo, .inr (10, [.ref tb, .ref jk, .ref jt, .ref jn, .ref ju, .ref jp, .ref jb, .ref ja, .ref jl, .ref jr, .int j10, .int j11, .int j12, .int j13, .int j14, .int j15]))]) [0] rfl
    have hD9 := hD.sub (ws' := [(jo, .inr (10, [.ref tb, .ref jk, .ref jt, .ref jn, .ref ju, .ref jp, .ref jb, .ref ja, .ref jl, .ref jr, .int j10, .int j11, .int j12, .int j13, .int j14, .int j15]))]) [0] (by decide) rfl
    have hK9 := hK.sub (tys' := []) [] rfl
    exact W.zret (v := 1) hx hb hr rfl (fun t ht hW => ⟨⟨1, (), rfl, (by skip; try (first | rw [if_pos c_1] | rw [if_neg c_1]); try rfl), by rw [ht]; exact hP9, va_K.moved hW.alike hK9, hD9⟩, hS.F ht⟩) hS.2.2 dX5_isRedone_16
set_option maxHeartbeats 4000000 in
set_option maxRecDepth 100000 in
/-- columnCode -/
theorem c_X1_columnCode (l : Launch) (dC : Nat → ClassId) (dI : Nat → Nat → Nat) (sz : Nat) (p0 p1 p2 : Int32) : Met l yX1_columnCode wsX1_columnCode ({ frames := 0, cells := 0, slots := 0, locals := 0 }) (va_Pc [.int p0, .int p1, .int p2] (fun U => U.heap.size = sz ∧ va_P (dC, dI) vwCl [] U.heap ∧ va_K (dC, dI) vwCl [] U ∧ va_D (fun _ => True) [])) (va_Qi (fun (r : Int32) (_ : Unit) => r = (p0 * 3 + p1) <<< (3 &&& 31) ||| p2) (fun (_ : Unit) (t : State) => va_P (dC, dI) vwCl [] t.heap ∧ va_K (dC, dI) vwCl [] t ∧ va_D (va_A [] sz) []) (va_A [] sz)) 0 0 (va_A [] sz) := by
  refine Met.ofW (cc := cX1_columnCode) (maxL := 3) (ret := (some .int)) (by decide) rfl ?_
  intro p e s m args below meth c s₁ B hml hv
  obtain ⟨rfl, hsz, hP, hK, hD0⟩ := hv
  have hx := B.exec
  have hb := B.bytes
  have hr := B.returns
  have hts := atoms_spec (ws := wsX1_columnCode) B.pre
  have hown : s.vm.findClass RX1 = some m.cls := findClass_of_methodNamed B.named
  have hlocks := B.notSynchronized
  subst hsz
  have hD := hD0.self (sz := s.heap.size)
  generalize hAe : va_A [] s.heap.size = A at hD ⊢
  have hA : ∀ q : Nat, s.heap.size ≤ q → A q := fun q h => by rw [← hAe]; exact Or.inr h
  have hS : va_S A s.heap s.heap [] := va_S.rf
  have hP : va_P (dC, dI) vwCl [] s.heap := hP
  have hl := lv_entry ([.int p0, .int p1, .int p2]) (n := 3) (Nat.le_of_ble_eq_true rfl)
  rw [lg_entry_eq]
  generalize (lg_sl ([.int p0, .int p1, .int p2]) ++ List.replicate (3 - (lg_sl ([.int p0, .int p1, .int p2])).length) Slot.unset).toArray = ls at hl ⊢
  have hl : lv_has ls 3 [(0, .int p0), (1, .int p1), (2, .int p2)] := hl
  refine lv_iload_n hx hb dX1_columnCode_0 rfl (lv_at hl 0 rfl) ?_
  refine lv_iconst (v := 3) hx hb dX1_columnCode_1 (by decide) ?_
  refine lv_imul hx hb dX1_columnCode_2 ?_
  refine lv_iload_n hx hb dX1_columnCode_3 rfl (lv_at hl 1 rfl) ?_
  refine lv_iadd hx hb dX1_columnCode_4 ?_
  refine lv_iconst (v := 3) hx hb dX1_columnCode_5 (by decide) ?_
  refine lv_ishl hx hb dX1_columnCode_6 ?_
  refine lv_iload_n hx hb dX1_columnCode_7 rfl (lv_at hl 2 rfl) ?_
  refine lv_ior hx hb dX1_columnCode_8 ?_
  have hP9 := hP.sub (ws' := []) [] rfl
  have hD9 := hD.sub (ws' := []) [] (by decide) rfl
  have hK9 := hK.sub (tys' := []) [] rfl
  exact W.iret (v := (((p0 * 3) + p1) <<< (3 &&& 31)) ||| p2) hx hb hr (fun t ht hW => ⟨⟨(((p0 * 3) + p1) <<< (3 &&& 31)) ||| p2, (), rfl, rfl, by rw [ht]; exact hP9, va_K.moved hW.alike hK9, hD9⟩, hS.F ht⟩) hS.2.2 dX1_columnCode_9
set_option maxHeartbeats 4000000 in
set_option maxRecDepth 100000 in
/-- calculate -/
theorem c_X2_calculate (l : Launch) (dC : Nat → ClassId) (dI : Nat → Nat → Nat) (sz : Nat) (p0 : Int32) (p1 p2 : Int64) : Met l yX2_calculate wsX2_calculate ({ frames := 0, cells := 0, slots := 0, locals := 0 }) (va_Pc [.int p0, .long p1, .long p2] (fun U => U.heap.size = sz ∧ va_P (dC, dI) vwCl [] U.heap ∧ va_K (dC, dI) vwCl [] U ∧ va_D (fun _ => True) [])) (va_Ql (fun (r : Int64) (_ : Unit) => r = (if p0 = 15 then p1 + p2 else if p0 = 16 then p1 - p2 else if p0 = 17 then p1 * p2 else if p0 = 18 then (if lg_cmp p2 0 = 0 then 0 else p1 / p2) else (if lg_cmp p2 0 = 0 then 0 else p1 - p1 / p2 * p2))) (fun (_ : Unit) (t : State) => va_P (dC, dI) vwCl [] t.heap ∧ va_K (dC, dI) vwCl [] t ∧ va_D (va_A [] sz) []) (va_A [] sz)) 0 0 (va_A [] sz) := by
  refine Met.ofW (cc := cX2_calculate) (maxL := 5) (ret := (some .long)) (by decide) rfl ?_
  intro p e s m args below meth c s₁ B hml hv
  obtain ⟨rfl, hsz, hP, hK, hD0⟩ := hv
  have hx := B.exec
  have hb := B.bytes
  have hr := B.returns
  have hts := atoms_spec (ws := wsX2_calculate) B.pre
  have hown : s.vm.findClass RX2 = some m.cls := findClass_of_methodNamed B.named
  have hlocks := B.notSynchronized
  subst hsz
  have hD := hD0.self (sz := s.heap.size)
  generalize hAe : va_A [] s.heap.size = A at hD ⊢
  have hA : ∀ q : Nat, s.heap.size ≤ q → A q := fun q h => by rw [← hAe]; exact Or.inr h
  have hS : va_S A s.heap s.heap [] := va_S.rf
  have hP : va_P (dC, dI) vwCl [] s.heap := hP
  have hl := lv_entry ([.int p0, .long p1, .long p2]) (n := 5) (Nat.le_of_ble_eq_true rfl)
  rw [lg_entry_eq]
  generalize (lg_sl ([.int p0, .long p1, .long p2]) ++ List.replicate (5 - (lg_sl ([.int p0, .long p1, .long p2])).length) Slot.unset).toArray = ls at hl ⊢
  have hl : lv_has ls 5 [(0, .int p0), (1, .long p1), (3, .long p2)] := hl
  refine lv_iload_n hx hb dX2_calculate_0 rfl (lv_at hl 0 rfl) ?_
  by_cases k_1 : p0 = 15
  · subst k_1
    refine lv_tableIn (tgt := 32) hx hb dX2_calculate_1 (by decide) (by decide) rfl (by decide) ?_
    refine lv_lload_n hx hb dX2_calculate_32 rfl (lv_at hl 1 rfl) ?_
    refine lv_lload_n hx hb dX2_calculate_33 rfl (lv_at hl 2 rfl) ?_
    refine lv_ladd hx hb dX2_calculate_34 ?_
    have hP9 := hP.sub (ws' := []) [] rfl
    have hD9 := hD.sub (ws' := []) [] (by decide) rfl
    have hK9 := hK.sub (tys' := []) [] rfl
    exact W.lret (v := p1 + p2) hx hb hr (fun t ht hW => ⟨⟨p1 + p2, (), rfl, (by try rfl), by rw [ht]; exact hP9, va_K.moved hW.alike hK9, hD9⟩, hS.F ht⟩) hS.2.2 dX2_calculate_35
  by_cases k_2 : p0 = 16
  · subst k_2
    refine lv_tableIn (tgt := 36) hx hb dX2_calculate_1 (by decide) (by decide) rfl (by decide) ?_
    refine lv_lload_n hx hb dX2_calculate_36 rfl (lv_at hl 1 rfl) ?_
    refine lv_lload_n hx hb dX2_calculate_37 rfl (lv_at hl 2 rfl) ?_
    refine lv_lsub hx hb dX2_calculate_38 ?_
    have hP9 := hP.sub (ws' := []) [] rfl
    have hD9 := hD.sub (ws' := []) [] (by decide) rfl
    have hK9 := hK.sub (tys' := []) [] rfl
    exact W.lret (v := p1 - p2) hx hb hr (fun t ht hW => ⟨⟨p1 - p2, (), rfl, (by try (first | rw [if_pos k_1] | rw [if_neg k_1] | rw [if_pos rfl]); try rfl), by rw [ht]; exact hP9, va_K.moved hW.alike hK9, hD9⟩, hS.F ht⟩) hS.2.2 dX2_calculate_39
  by_cases k_3 : p0 = 17
  · subst k_3
    refine lv_tableIn (tgt := 40) hx hb dX2_calculate_1 (by decide) (by decide) rfl (by decide) ?_
    refine lv_lload_n hx hb dX2_calculate_40 rfl (lv_at hl 1 rfl) ?_
    refine lv_lload_n hx hb dX2_calculate_41 rfl (lv_at hl 2 rfl) ?_
    refine lv_lmul hx hb dX2_calculate_42 ?_
    have hP9 := hP.sub (ws' := []) [] rfl
    have hD9 := hD.sub (ws' := []) [] (by decide) rfl
    have hK9 := hK.sub (tys' := []) [] rfl
    exact W.lret (v := p1 * p2) hx hb hr (fun t ht hW => ⟨⟨p1 * p2, (), rfl, (by try (first | rw [if_pos k_1] | rw [if_neg k_1] | rw [if_pos rfl]); try (first | rw [if_pos k_2] | rw [if_neg k_2] | rw [if_pos rfl]); try rfl), by rw [ht]; exact hP9, va_K.moved hW.alike hK9, hD9⟩, hS.F ht⟩) hS.2.2 dX2_calculate_43
  by_cases k_4 : p0 = 18
  · subst k_4
    refine lv_tableIn (tgt := 44) hx hb dX2_calculate_1 (by decide) (by decide) rfl (by decide) ?_
    refine lv_lload_n hx hb dX2_calculate_44 rfl (lv_at hl 2 rfl) ?_
    refine lv_lconst (v := 0) hx hb dX2_calculate_45 (by decide) ?_
    refine W.lcmp hx hb dX2_calculate_46 ?_
    refine lv_if_ne (tgt := 54) hx hb dX2_calculate_47 (by decide) (fun c_5 => ?_) (fun c_5 => ?_)
    · skip
      refine lv_lload_n hx hb dX2_calculate_54 rfl (lv_at hl 1 rfl) ?_
      refine lv_lload_n hx hb dX2_calculate_55 rfl (lv_at hl 2 rfl) ?_
      refine lv_ldiv hx hb dX2_calculate_56 (qh_cmp0 c_5) ?_
      have hP9 := hP.sub (ws' := []) [] rfl
      have hD9 := hD.sub (ws' := []) [] (by decide) rfl
      have hK9 := hK.sub (tys' := []) [] rfl
      exact W.lret (v := p1 / p2) hx hb hr (fun t ht hW => ⟨⟨p1 / p2, (), rfl, (by try (first | rw [if_pos k_1] | rw [if_neg k_1] | rw [if_pos rfl]); try (first | rw [if_pos k_2] | rw [if_neg k_2] | rw [if_pos rfl]); try (first | rw [if_pos k_3] | rw [if_neg k_3] | rw [if_pos rfl]); try (first | rw [if_pos c_5] | rw [if_neg c_5] | rw [if_pos rfl]); try rfl), by rw [ht]; exact hP9, va_K.moved hW.alike hK9, hD9⟩, hS.F ht⟩) hS.2.2 dX2_calculate_57
    · skip
      refine lv_lconst (v := 0) hx hb dX2_calculate_50 (by decide) ?_
      refine lv_goto (tgt := 57) hx hb dX2_calculate_51 (by decide) ?_
      have hP9 := hP.sub (ws' := []) [] rfl
      have hD9 := hD.sub (ws' := []) [] (by decide) rfl
      have hK9 := hK.sub (tys' := []) [] rfl
      exact W.lret (v := 0) hx hb hr (fun t ht hW => ⟨⟨0, (), rfl, (by try (first | rw [if_pos k_1] | rw [if_neg k_1] | rw [if_pos rfl]); try (first | rw [if_pos k_2] | rw [if_neg k_2] | rw [if_pos rfl]); try (first | rw [if_pos k_3] | rw [if_neg k_3] | rw [if_pos rfl]); try (first | rw [if_pos c_5] | rw [if_neg c_5] | rw [if_pos rfl]); try rfl), by rw [ht]; exact hP9, va_K.moved hW.alike hK9, hD9⟩, hS.F ht⟩) hS.2.2 dX2_calculate_57
  refine lv_tableOut (tgt := 58) hx hb dX2_calculate_1 (by have z0 := lv_neT k_1 (a := 15) rfl; have z1 := lv_neT k_2 (a := 16) rfl; have z2 := lv_neT k_3 (a := 17) rfl; have z3 := lv_neT k_4 (a := 18) rfl; omega) (by decide) ?_
  refine lv_lload_n hx hb dX2_calculate_58 rfl (lv_at hl 2 rfl) ?_
  refine lv_lconst (v := 0) hx hb dX2_calculate_59 (by decide) ?_
  refine W.lcmp hx hb dX2_calculate_60 ?_
  refine lv_if_ne (tgt := 68) hx hb dX2_calculate_61 (by decide) (fun c_6 => ?_) (fun c_6 => ?_)
  · skip
    refine lv_lload_n hx hb dX2_calculate_68 rfl (lv_at hl 1 rfl) ?_
    refine lv_lload_n hx hb dX2_calculate_69 rfl (lv_at hl 2 rfl) ?_
    refine lv_lrem hx hb dX2_calculate_70 (qh_cmp0 c_6) ?_
    have hP9 := hP.sub (ws' := []) [] rfl
    have hD9 := hD.sub (ws' := []) [] (by decide) rfl
    have hK9 := hK.sub (tys' := []) [] rfl
    exact W.lret (v := p1 - p1 / p2 * p2) hx hb hr (fun t ht hW => ⟨⟨p1 - p1 / p2 * p2, (), rfl, (by try (first | rw [if_pos k_1] | rw [if_neg k_1] | rw [if_pos rfl]); try (first | rw [if_pos k_2] | rw [if_neg k_2] | rw [if_pos rfl]); try (first | rw [if_pos k_3] | rw [if_neg k_3] | rw [if_pos rfl]); try (first | rw [if_pos k_4] | rw [if_neg k_4] | rw [if_pos rfl]); try (first | rw [if_pos c_6] | rw [if_neg c_6] | rw [if_pos rfl]); try rfl), by rw [ht]; exact hP9, va_K.moved hW.alike hK9, hD9⟩, hS.F ht⟩) hS.2.2 dX2_calculate_71
  · skip
    refine lv_lconst (v := 0) hx hb dX2_calculate_64 (by decide) ?_
    refine lv_goto (tgt := 71) hx hb dX2_calculate_65 (by decide) ?_
    have hP9 := hP.sub (ws' := []) [] rfl
    have hD9 := hD.sub (ws' := []) [] (by decide) rfl
    have hK9 := hK.sub (tys' := []) [] rfl
    exact W.lret (v := 0) hx hb hr (fun t ht hW => ⟨⟨0, (), rfl, (by try (first | rw [if_pos k_1] | rw [if_neg k_1] | rw [if_pos rfl]); try (first | rw [if_pos k_2] | rw [if_neg k_2] | rw [if_pos rfl]); try (first | rw [if_pos k_3] | rw [if_neg k_3] | rw [if_pos rfl]); try (first | rw [if_pos k_4] | rw [if_neg k_4] | rw [if_pos rfl]); try (first | rw [if_pos c_6] | rw [if_neg c_6] | rw [if_pos rfl]); try rfl), by rw [ht]; exact hP9, va_K.moved hW.alike hK9, hD9⟩, hS.F ht⟩) hS.2.2 dX2_calculate_71
set_option maxHeartbeats 4000000 in
set_option maxRecDepth 100000 in
/-- holds -/
theorem c_X2_holds (l : Launch) (dC : Nat → ClassId) (dI : Nat → Nat → Nat) (sz : Nat) (p0 p1 : Int32) : Met l yX2_holds wsX2_holds ({ frames := 0, cells := 0, slots := 0, locals := 0 }) (va_Pc [.int p0, .int p1] (fun U => U.heap.size = sz ∧ va_P (dC, dI) vwCl [] U.heap ∧ va_K (dC, dI) vwCl [] U ∧ va_D (fun _ => True) [])) (va_Qi (fun (r : Int32) (_ : Unit) => r = (if p0 = 20 then (if p1 = 0 then 1 else 0) else if p0 = 21 then (if p1 = 0 then 0 else 1) else if p0 = 22 then (if 0 ≤ p1 then 0 else 1) else if p0 = 23 then (if 0 < p1 then 0 else 1) else if p0 = 24 then (if p1 ≤ 0 then 0 else 1) else (if p1 < 0 then 0 else 1))) (fun (_ : Unit) (t : State) => va_P (dC, dI) vwCl [] t.heap ∧ va_K (dC, dI) vwCl [] t ∧ va_D (va_A [] sz) []) (va_A [] sz)) 0 0 (va_A [] sz) := by
  refine Met.ofW (cc := cX2_holds) (maxL := 2) (ret := (some .boolean)) (by decide) rfl ?_
  intro p e s m args below meth c s₁ B hml hv
  obtain ⟨rfl, hsz, hP, hK, hD0⟩ := hv
  have hx := B.exec
  have hb := B.bytes
  have hr := B.returns
  have hts := atoms_spec (ws := wsX2_holds) B.pre
  have hown : s.vm.findClass RX2 = some m.cls := findClass_of_methodNamed B.named
  have hlocks := B.notSynchronized
  subst hsz
  have hD := hD0.self (sz := s.heap.size)
  generalize hAe : va_A [] s.heap.size = A at hD ⊢
  have hA : ∀ q : Nat, s.heap.size ≤ q → A q := fun q h => by rw [← hAe]; exact Or.inr h
  have hS : va_S A s.heap s.heap [] := va_S.rf
  have hP : va_P (dC, dI) vwCl [] s.heap := hP
  have hl := lv_entry ([.int p0, .int p1]) (n := 2) (Nat.le_of_ble_eq_true rfl)
  rw [lg_entry_eq]
  generalize (lg_sl ([.int p0, .int p1]) ++ List.replicate (2 - (lg_sl ([.int p0, .int p1])).length) Slot.unset).toArray = ls at hl ⊢
  have hl : lv_has ls 2 [(0, .int p0), (1, .int p1)] := hl
  refine lv_iload_n hx hb dX2_holds_0 rfl (lv_at hl 0 rfl) ?_
  by_cases k_1 : p0 = 20
  · subst k_1
    refine lv_tableIn (tgt := 36) hx hb dX2_holds_1 (by decide) (by decide) rfl (by decide) ?_
    refine lv_iload_n hx hb dX2_holds_36 rfl (lv_at hl 1 rfl) ?_
    refine lv_if_ne (tgt := 44) hx hb dX2_holds_37 (by decide) (fun c_2 => ?_) (fun c_2 => ?_)
    · skip
      refine lv_iconst (v := 0) hx hb dX2_holds_44 (by decide) ?_
      have hP9 := hP.sub (ws' := []) [] rfl
      have hD9 := hD.sub (ws' := []) [] (by decide) rfl
      have hK9 := hK.sub (tys' := []) [] rfl
      exact W.zret (v := 0) hx hb hr rfl (fun t ht hW => ⟨⟨0, (), rfl, (by try (first | rw [if_pos c_2] | rw [if_neg c_2] | rw [if_pos rfl]); try rfl), by rw [ht]; exact hP9, va_K.moved hW.alike hK9, hD9⟩, hS.F ht⟩) hS.2.2 dX2_holds_45
    · skip
      refine lv_iconst (v := 1) hx hb dX2_holds_40 (by decide) ?_
      refine lv_goto (tgt := 45) hx hb dX2_holds_41 (by decide) ?_
      have hP9 := hP.sub (ws' := []) [] rfl
      have hD9 := hD.sub (ws' := []) [] (by decide) rfl
      have hK9 := hK.sub (tys' := []) [] rfl
      exact W.zret (v := 1) hx hb hr rfl (fun t ht hW => ⟨⟨1, (), rfl, (by try (first | rw [if_pos c_2] | rw [if_neg c_2] | rw [if_pos rfl]); try rfl), by rw [ht]; exact hP9, va_K.moved hW.alike hK9, hD9⟩, hS.F ht⟩) hS.2.2 dX2_holds_45
  by_cases k_3 : p0 = 21
  · subst k_3
    refine lv_tableIn (tgt := 46) hx hb dX2_holds_1 (by decide) (by decide) rfl (by decide) ?_
    refine lv_iload_n hx hb dX2_holds_46 rfl (lv_at hl 1 rfl) ?_
    refine lv_if_eq (tgt := 54) hx hb dX2_holds_47 (by decide) (fun c_4 => ?_) (fun c_4 => ?_)
    · skip
      refine lv_iconst (v := 0) hx hb dX2_holds_54 (by decide) ?_
      have hP9 := hP.sub (ws' := []) [] rfl
      have hD9 := hD.sub (ws' := []) [] (by decide) rfl
      have hK9 := hK.sub (tys' := []) [] rfl
      exact W.zret (v := 0) hx hb hr rfl (fun t ht hW => ⟨⟨0, (), rfl, (by try (first | rw [if_pos k_1] | rw [if_neg k_1] | rw [if_pos rfl]); try (first | rw [if_pos c_4] | rw [if_neg c_4] | rw [if_pos rfl]); try rfl), by rw [ht]; exact hP9, va_K.moved hW.alike hK9, hD9⟩, hS.F ht⟩) hS.2.2 dX2_holds_55
    · skip
      refine lv_iconst (v := 1) hx hb dX2_holds_50 (by decide) ?_
      refine lv_goto (tgt := 55) hx hb dX2_holds_51 (by decide) ?_
      have hP9 := hP.sub (ws' := []) [] rfl
      have hD9 := hD.sub (ws' := []) [] (by decide) rfl
      have hK9 := hK.sub (tys' := []) [] rfl
      exact W.zret (v := 1) hx hb hr rfl (fun t ht hW => ⟨⟨1, (), rfl, (by try (first | rw [if_pos k_1] | rw [if_neg k_1] | rw [if_pos rfl]); try (first | rw [if_pos c_4] | rw [if_neg c_4] | rw [if_pos rfl]); try rfl), by rw [ht]; exact hP9, va_K.moved hW.alike hK9, hD9⟩, hS.F ht⟩) hS.2.2 dX2_holds_55
  by_cases k_5 : p0 = 22
  · subst k_5
    refine lv_tableIn (tgt := 56) hx hb dX2_holds_1 (by decide) (by decide) rfl (by decide) ?_
    refine lv_iload_n hx hb dX2_holds_56 rfl (lv_at hl 1 rfl) ?_
    refine lv_if_ge (tgt := 64) hx hb dX2_holds_57 (by decide) (fun c_6 => ?_) (fun c_6 => ?_)
    · skip
      refine lv_iconst (v := 0) hx hb dX2_holds_64 (by decide) ?_
      have hP9 := hP.sub (ws' := []) [] rfl
      have hD9 := hD.sub (ws' := []) [] (by decide) rfl
      have hK9 := hK.sub (tys' := []) [] rfl
      exact W.zret (v := 0) hx hb hr rfl (fun t ht hW => ⟨⟨0, (), rfl, (by try (first | rw [if_pos k_1] | rw [if_neg k_1] | rw [if_pos rfl]); try (first | rw [if_pos k_3] | rw [if_neg k_3] | rw [if_pos rfl]); try (first | rw [if_pos c_6] | rw [if_neg c_6] | rw [if_pos rfl]); try rfl), by rw [ht]; exact hP9, va_K.moved hW.alike hK9, hD9⟩, hS.F ht⟩) hS.2.2 dX2_holds_65
    · skip
      refine lv_iconst (v := 1) hx hb dX2_holds_60 (by decide) ?_
      refine lv_goto (tgt := 65) hx hb dX2_holds_61 (by decide) ?_
      have hP9 := hP.sub (ws' := []) [] rfl
      have hD9 := hD.sub (ws' := []) [] (by decide) rfl
      have hK9 := hK.sub (tys' := []) [] rfl
      exact W.zret (v := 1) hx hb hr rfl (fun t ht hW => ⟨⟨1, (), rfl, (by try (first | rw [if_pos k_1] | rw [if_neg k_1] | rw [if_pos rfl]); try (first | rw [if_pos k_3] | rw [if_neg k_3] | rw [if_pos rfl]); try (first | rw [if_pos c_6] | rw [if_neg c_6] | rw [if_pos rfl]); try rfl), by rw [ht]; exact hP9, va_K.moved hW.alike hK9, hD9⟩, hS.F ht⟩) hS.2.2 dX2_holds_65
  by_cases k_7 : p0 = 23
  · subst k_7
    refine lv_tableIn (tgt := 66) hx hb dX2_holds_1 (by decide) (by decide) rfl (by decide) ?_
    refine lv_iload_n hx hb dX2_holds_66 rfl (lv_at hl 1 rfl) ?_
    refine lv_if_gt (tgt := 74) hx hb dX2_holds_67 (by decide) (fun c_8 => ?_) (fun c_8 => ?_)
    · skip
      refine lv_iconst (v := 0) hx hb dX2_holds_74 (by decide) ?_
      have hP9 := hP.sub (ws' := []) [] rfl
      have hD9 := hD.sub (ws' := []) [] (by decide) rfl
      have hK9 := hK.sub (tys' := []) [] rfl
      exact W.zret (v := 0) hx hb hr rfl (fun t ht hW => ⟨⟨0, (), rfl, (by try (first | rw [if_pos k_1] | rw [if_neg k_1] | rw [if_pos rfl]); try (first | rw [if_pos k_3] | rw [if_neg k_3] | rw [if_pos rfl]); try (first | rw [if_pos k_5] | rw [if_neg k_5] | rw [if_pos rfl]); try (first | rw [if_pos c_8] | rw [if_neg c_8] | rw [if_pos rfl]); try rfl), by rw [ht]; exact hP9, va_K.moved hW.alike hK9, hD9⟩, hS.F ht⟩) hS.2.2 dX2_holds_75
    · skip
      refine lv_iconst (v := 1) hx hb dX2_holds_70 (by decide) ?_
      refine lv_goto (tgt := 75) hx hb dX2_holds_71 (by decide) ?_
      have hP9 := hP.sub (ws' := []) [] rfl
      have hD9 := hD.sub (ws' := []) [] (by decide) rfl
      have hK9 := hK.sub (tys' := []) [] rfl
      exact W.zret (v := 1) hx hb hr rfl (fun t ht hW => ⟨⟨1, (), rfl, (by try (first | rw [if_pos k_1] | rw [if_neg k_1] | rw [if_pos rfl]); try (first | rw [if_pos k_3] | rw [if_neg k_3] | rw [if_pos rfl]); try (first | rw [if_pos k_5] | rw [if_neg k_5] | rw [if_pos rfl]); try (first | rw [if_pos c_8] | rw [if_neg c_8] | rw [if_pos rfl]); try rfl), by rw [ht]; exact hP9, va_K.moved hW.alike hK9, hD9⟩, hS.F ht⟩) hS.2.2 dX2_holds_75
  by_cases k_9 : p0 = 24
  · subst k_9
    refine lv_tableIn (tgt := 76) hx hb dX2_holds_1 (by decide) (by decide) rfl (by decide) ?_
    refine lv_iload_n hx hb dX2_holds_76 rfl (lv_at hl 1 rfl) ?_
    refine lv_if_le (tgt := 84) hx hb dX2_holds_77 (by decide) (fun c_10 => ?_) (fun c_10 => ?_)
    · skip
      refine lv_iconst (v := 0) hx hb dX2_holds_84 (by decide) ?_
      have hP9 := hP.sub (ws' := []) [] rfl
      have hD9 := hD.sub (ws' := []) [] (by decide) rfl
      have hK9 := hK.sub (tys' := []) [] rfl
      exact W.zret (v := 0) hx hb hr rfl (fun t ht hW => ⟨⟨0, (), rfl, (by try (first | rw [if_pos k_1] | rw [if_neg k_1] | rw [if_pos rfl]); try (first | rw [if_pos k_3] | rw [if_neg k_3] | rw [if_pos rfl]); try (first | rw [if_pos k_5] | rw [if_neg k_5] | rw [if_pos rfl]); try (first | rw [if_pos k_7] | rw [if_neg k_7] | rw [if_pos rfl]); try (first | rw [if_pos c_10] | rw [if_neg c_10] | rw [if_pos rfl]); try rfl), by rw [ht]; exact hP9, va_K.moved hW.alike hK9, hD9⟩, hS.F ht⟩) hS.2.2 dX2_holds_85
    · skip
      refine lv_iconst (v := 1) hx hb dX2_holds_80 (by decide) ?_
      refine lv_goto (tgt := 85) hx hb dX2_holds_81 (by decide) ?_
      have hP9 := hP.sub (ws' := []) [] rfl
      have hD9 := hD.sub (ws' := []) [] (by decide) rfl
      have hK9 := hK.sub (tys' := []) [] rfl
      exact W.zret (v := 1) hx hb hr rfl (fun t ht hW => ⟨⟨1, (), rfl, (by try (first | rw [if_pos k_1] | rw [if_neg k_1] | rw [if_pos rfl]); try (first | rw [if_pos k_3] | rw [if_neg k_3] | rw [if_pos rfl]); try (first | rw [if_pos k_5] | rw [if_neg k_5] | rw [if_pos rfl]); try (first | rw [if_pos k_7] | rw [if_neg k_7] | rw [if_pos rfl]); try (first | rw [if_pos c_10] | rw [if_neg c_10] | rw [if_pos rfl]); try rfl), by rw [ht]; exact hP9, va_K.moved hW.alike hK9, hD9⟩, hS.F ht⟩) hS.2.2 dX2_holds_85
  refine lv_tableOut (tgt := 86) hx hb dX2_holds_1 (by have z0 := lv_neT k_1 (a := 20) rfl; have z1 := lv_neT k_3 (a := 21) rfl; have z2 := lv_neT k_5 (a := 22) rfl; have z3 := lv_neT k_7 (a := 23) rfl; have z4 := lv_neT k_9 (a := 24) rfl; omega) (by decide) ?_
  refine lv_iload_n hx hb dX2_holds_86 rfl (lv_at hl 1 rfl) ?_
  refine lv_if_lt (tgt := 94) hx hb dX2_holds_87 (by decide) (fun c_11 => ?_) (fun c_11 => ?_)
  · skip
    refine lv_iconst (v := 0) hx hb dX2_holds_94 (by decide) ?_
    have hP9 := hP.sub (ws' := []) [] rfl
    have hD9 := hD.sub (ws' := []) [] (by decide) rfl
    have hK9 := hK.sub (tys' := []) [] rfl
    exact W.zret (v := 0) hx hb hr rfl (fun t ht hW => ⟨⟨0, (), rfl, (by try (first | rw [if_pos k_1] | rw [if_neg k_1] | rw [if_pos rfl]); try (first | rw [if_pos k_3] | rw [if_neg k_3] | rw [if_pos rfl]); try (first | rw [if_pos k_5] | rw [if_neg k_5] | rw [if_pos rfl]); try (first | rw [if_pos k_7] | rw [if_neg k_7] | rw [if_pos rfl]); try (first | rw [if_pos k_9] | rw [if_neg k_9] | rw [if_pos rfl]); try (first | rw [if_pos c_11] | rw [if_neg c_11] | rw [if_pos rfl]); try rfl), by rw [ht]; exact hP9, va_K.moved hW.alike hK9, hD9⟩, hS.F ht⟩) hS.2.2 dX2_holds_95
  · skip
    refine lv_iconst (v := 1) hx hb dX2_holds_90 (by decide) ?_
    refine lv_goto (tgt := 95) hx hb dX2_holds_91 (by decide) ?_
    have hP9 := hP.sub (ws' := []) [] rfl
    have hD9 := hD.sub (ws' := []) [] (by decide) rfl
    have hK9 := hK.sub (tys' := []) [] rfl
    exact W.zret (v := 1) hx hb hr rfl (fun t ht hW => ⟨⟨1, (), rfl, (by try (first | rw [if_pos k_1] | rw [if_neg k_1] | rw [if_pos rfl]); try (first | rw [if_pos k_3] | rw [if_neg k_3] | rw [if_pos rfl]); try (first | rw [if_pos k_5] | rw [if_neg k_5] | rw [if_pos rfl]); try (first | rw [if_pos k_7] | rw [if_neg k_7] | rw [if_pos rfl]); try (first | rw [if_pos k_9] | rw [if_neg k_9] | rw [if_pos rfl]); try (first | rw [if_pos c_11] | rw [if_neg c_11] | rw [if_pos rfl]); try rfl), by rw [ht]; exact hP9, va_K.moved hW.alike hK9, hD9⟩, hS.F ht⟩) hS.2.2 dX2_holds_95
set_option maxHeartbeats 4000000 in
set_option maxRecDepth 100000 in
/-- Code.clear() -/
theorem c_X1_clear (l : Launch) (dC : Nat → ClassId) (dI : Nat → Nat → Nat) (sz : Nat) (cd c0 c1 c2 c3 c4 c5 c6 c7 c8 c9 c10 c11 c12 c13 : Nat) (d14 d15 d16 d17 d18 d19 d20 : Int32) (ctop : Value) : Met l yX1_clear wsX1_clear ({ frames := 0, cells := 0, slots := 0, locals := 0 }) (va_Pc [.ref cd] (fun U => U.heap.size = sz ∧ va_P (dC, dI) vwCl [(cd, .inr (6, [.ref c0, .ref c1, .ref c2, .ref c3, .ref c4, .ref c5, .ref c6, .ref c7, .ref c8, .ref c9, .ref c10, .ref c11, .ref c12, .ref c13, .int d14, .int d15, .int d16, .int d17, .int d18, .int d19, .int d20, ctop]))] U.heap ∧ va_K (dC, dI) vwCl [] U ∧ va_D (fun _ => True) [(cd, .inr (6, [.ref c0, .ref c1, .ref c2, .ref c3, .ref c4, .ref c5, .ref c6, .ref c7, .ref c8, .ref c9, .ref c10, .ref c11, .ref c12, .ref c13, .int d14, .int d15, .int d16, .int d17, .int d18, .int d19, .int d20, ctop]))])) (va_Qv (fun (_ : Unit) => True) (fun (_ : Unit) (t : State) => va_P (dC, dI) vwCl [(cd, .inr (6, [.ref c0, .ref c1, .ref c2, .ref c3, .ref c4, .ref c5, .ref c6, .ref c7, .ref c8, .ref c9, .ref c10, .ref c11, .ref c12, .ref c13, .int (-1), .int 0, .int 0, .int 0, .int 0, .int 0, .int (-1), .null]))] t.heap ∧ va_K (dC, dI) vwCl [] t ∧ va_D (va_A [(cd, .inr (6, [.ref c0, .ref c1, .ref c2, .ref c3, .ref c4, .ref c5, .ref c6, .ref c7, .ref c8, .ref c9, .ref c10, .ref c11, .ref c12, .ref c13, .int d14, .int d15, .int d16, .int d17, .int d18, .int d19, .int d20, ctop]))] sz) [(cd, .inr (6, [.ref c0, .ref c1, .ref c2, .ref c3, .ref c4, .ref c5, .ref c6, .ref c7, .ref c8, .ref c9, .ref c10, .ref c11, .ref c12, .ref c13, .int (-1), .int 0, .int 0, .int 0, .int 0, .int 0, .int (-1), .null]))]) (va_A [(cd, .inr (6, [.ref c0, .ref c1, .ref c2, .ref c3, .ref c4, .ref c5, .ref c6, .ref c7, .ref c8, .ref c9, .ref c10, .ref c11, .ref c12, .ref c13, .int d14, .int d15, .int d16, .int d17, .int d18, .int d19, .int d20, ctop]))] sz)) 0 0 (va_A [(cd, .inr (6, [.ref c0, .ref c1, .ref c2, .ref c3, .ref c4, .ref c5, .ref c6, .ref c7, .ref c8, .ref c9, .ref c10, .ref c11, .ref c12, .ref c13, .int d14, .int d15, .int d16, .int d17, .int d18, .int d19, .int d20, ctop]))] sz) := by
  refine Met.ofW (cc := cX1_clear) (maxL := 1) (ret := none) (by decide) rfl ?_
  intro p e s m args below meth c s₁ B hml hv
  obtain ⟨rfl, hsz, hP, hK, hD0⟩ := hv
  have hx := B.exec
  have hb := B.bytes
  have hr := B.returns
  have hts := atoms_spec (ws := wsX1_clear) B.pre
  have hown : s.vm.findClass RX1 = some m.cls := findClass_of_methodNamed B.named
  have hlocks := B.notSynchronized
  subst hsz
  have hD := hD0.self (sz := s.heap.size)
  generalize hAe : va_A [(cd, .inr (6, [.ref c0, .ref c1, .ref c2, .ref c3, .ref c4, .ref c5, .ref c6, .ref c7, .ref c8, .ref c9, .ref c10, .ref c11, .ref c12, .ref c13, .int d14, .int d15, .int d16, .int d17, .int d18, .int d19, .int d20, ctop]))] s.heap.size = A at hD ⊢
  have hA : ∀ q : Nat, s.heap.size ≤ q → A q := fun q h => by rw [← hAe]; exact Or.inr h
  have hS : va_S A s.heap s.heap [] := va_S.rf
  have hP : va_P (dC, dI) vwCl [(cd, .inr (6, [.ref c0, .ref c1, .ref c2, .ref c3, .ref c4, .ref c5, .ref c6, .ref c7, .ref c8, .ref c9, .ref c10, .ref c11, .ref c12, .ref c13, .int d14, .int d15, .int d16, .int d17, .int d18, .int d19, .int d20, ctop]))] s.heap := hP
  have hl := lv_entry ([.ref cd]) (n := 1) (Nat.le_of_ble_eq_true rfl)
  rw [lg_entry_eq]
  generalize (lg_sl ([.ref cd]) ++ List.replicate (1 - (lg_sl ([.ref cd])).length) Slot.unset).toArray = ls at hl ⊢
  have hl : lv_has ls 1 [(0, .ref cd)] := hl
  refine lv_aload_n hx hb dX1_clear_0 rfl (lv_at hl 0 rfl) ?_
  refine lv_iconst (v := -1) hx hb dX1_clear_1 (by decide) ?_
  refine va_put (D := (dC, dI)) (ci := 6) (v := .int (-1)) (ty := .int) (C := RX1) (T := TX1) (N := 22) hx hb hts (by decide +kernel) tyX1 tyX1_ok nmX1 hown hK hP hD hS 0 rfl rfl 14 (by decide) (hts (.fieldLink RX1 60 "QueryHall$Code" "statement" "I") (by decide +kernel)) (fun _ h9 => h9) rfl (by decide +kernel) rfl rfl (Nat.le_of_ble_eq_true rfl) dX1_clear_2 (fun H locs hP hD hS => ?_)
  have hP : va_P (dC, dI) vwCl [(cd, .inr (6, [.ref c0, .ref c1, .ref c2, .ref c3, .ref c4, .ref c5, .ref c6, .ref c7, .ref c8, .ref c9, .ref c10, .ref c11, .ref c12, .ref c13, .int (-1), .int d15, .int d16, .int d17, .int d18, .int d19, .int d20, ctop]))] H := hP
  have hD : va_D A [(cd, .inr (6, [.ref c0, .ref c1, .ref c2, .ref c3, .ref c4, .ref c5, .ref c6, .ref c7, .ref c8, .ref c9, .ref c10, .ref c11, .ref c12, .ref c13, .int (-1), .int d15, .int d16, .int d17, .int d18, .int d19, .int d20, ctop]))] := hD
  refine lv_aload_n hx hb dX1_clear_5 rfl (lv_at hl 0 rfl) ?_
  refine lv_iconst (v := 0) hx hb dX1_clear_6 (by decide) ?_
  refine va_put (D := (dC, dI)) (ci := 6) (v := .int 0) (ty := .int) (C := RX1) (T := TX1) (N := 22) hx hb hts (by decide +kernel) tyX1 tyX1_ok nmX1 hown hK hP hD hS 0 rfl rfl 15 (by decide) (hts (.fieldLink RX1 64 "QueryHall$Code" "count" "I") (by decide +kernel)) (fun _ h9 => h9) rfl (by decide +kernel) rfl rfl (Nat.le_of_ble_eq_true rfl) dX1_clear_7 (fun H locs hP hD hS => ?_)
  have hP : va_P (dC, dI) vwCl [(cd, .inr (6, [.ref c0, .ref c1, .ref c2, .ref c3, .ref c4, .ref c5, .ref c6, .ref c7, .ref c8, .ref c9, .ref c10, .ref c11, .ref c12, .ref c13, .int (-1), .int 0, .int d16, .int d17, .int d18, .int d19, .int d20, ctop]))] H := hP
  have hD : va_D A [(cd, .inr (6, [.ref c0, .ref c1, .ref c2, .ref c3, .ref c4, .ref c5, .ref c6, .ref c7, .ref c8, .ref c9, .ref c10, .ref c11, .ref c12, .ref c13, .int (-1), .int 0, .int d16, .int d17, .int d18, .int d19, .int d20, ctop]))] := hD
  refine lv_aload_n hx hb dX1_clear_10 rfl (lv_at hl 0 rfl) ?_
  refine lv_iconst (v := 0) hx hb dX1_clear_11 (by decide) ?_
  refine va_put (D := (dC, dI)) (ci := 6) (v := .int 0) (ty := .int) (C := RX1) (T := TX1) (N := 22) hx hb hts (by decide +kernel) tyX1 tyX1_ok nmX1 hown hK hP hD hS 0 rfl rfl 16 (by decide) (hts (.fieldLink RX1 67 "QueryHall$Code" "nameCount" "I") (by decide +kernel)) (fun _ h9 => h9) rfl (by decide +kernel) rfl rfl (Nat.le_of_ble_eq_true rfl) dX1_clear_12 (fun H locs hP hD hS => ?_)
  have hP : va_P (dC, dI) vwCl [(cd, .inr (6, [.ref c0, .ref c1, .ref c2, .ref c3, .ref c4, .ref c5, .ref c6, .ref c7, .ref c8, .ref c9, .ref c10, .ref c11, .ref c12, .ref c13, .int (-1), .int 0, .int 0, .int d17, .int d18, .int d19, .int d20, ctop]))] H := hP
  have hD : va_D A [(cd, .inr (6, [.ref c0, .ref c1, .ref c2, .ref c3, .ref c4, .ref c5, .ref c6, .ref c7, .ref c8, .ref c9, .ref c10, .ref c11, .ref c12, .ref c13, .int (-1), .int 0, .int 0, .int d17, .int d18, .int d19, .int d20, ctop]))] := hD
  refine lv_aload_n hx hb dX1_clear_15 rfl (lv_at hl 0 rfl) ?_
  refine lv_iconst (v := 0) hx hb dX1_clear_16 (by decide) ?_
  refine va_put (D := (dC, dI)) (ci := 6) (v := .int 0) (ty := .int) (C := RX1) (T := TX1) (N := 22) hx hb hts (by decide +kernel) tyX1 tyX1_ok nmX1 hown hK hP hD hS 0 rfl rfl 17 (by decide) (hts (.fieldLink RX1 70 "QueryHall$Code" "rootCount" "I") (by decide +kernel)) (fun _ h9 => h9) rfl (by decide +kernel) rfl rfl (Nat.le_of_ble_eq_true rfl) dX1_clear_17 (fun H locs hP hD hS => ?_)
  have hP : va_P (dC, dI) vwCl [(cd, .inr (6, [.ref c0, .ref c1, .ref c2, .ref c3, .ref c4, .ref c5, .ref c6, .ref c7, .ref c8, .ref c9, .ref c10, .ref c11, .ref c12, .ref c13, .int (-1), .int 0, .int 0, .int 0, .int d18, .int d19, .int d20, ctop]))] H := hP
  have hD : va_D A [(cd, .inr (6, [.ref c0, .ref c1, .ref c2, .ref c3, .ref c4, .ref c5, .ref c6, .ref c7, .ref c8, .ref c9, .ref c10, .ref c11, .ref c12, .ref c13, .int (-1), .int 0, .int 0, .int 0, .int d18, .int d19, .int d20, ctop]))] := hD
  refine lv_aload_n hx hb dX1_clear_20 rfl (lv_at hl 0 rfl) ?_
  refine lv_iconst (v := 0) hx hb dX1_clear_21 (by decide) ?_
  refine va_put (D := (dC, dI)) (ci := 6) (v := .int 0) (ty := .int) (C := RX1) (T := TX1) (N := 22) hx hb hts (by decide +kernel) tyX1 tyX1_ok nmX1 hown hK hP hD hS 0 rfl rfl 18 (by decide) (hts (.fieldLink RX1 73 "QueryHall$Code" "rowCount" "I") (by decide +kernel)) (fun _ h9 => h9) rfl (by decide +kernel) rfl rfl (Nat.le_of_ble_eq_true rfl) dX1_clear_22 (fun H locs hP hD hS => ?_)
  have hP : va_P (dC, dI) vwCl [(cd, .inr (6, [.ref c0, .ref c1, .ref c2, .ref c3, .ref c4, .ref c5, .ref c6, .ref c7, .ref c8, .ref c9, .ref c10, .ref c11, .ref c12, .ref c13, .int (-1), .int 0, .int 0, .int 0, .int 0, .int d19, .int d20, ctop]))] H := hP
  have hD : va_D A [(cd, .inr (6, [.ref c0, .ref c1, .ref c2, .ref c3, .ref c4, .ref c5, .ref c6, .ref c7, .ref c8, .ref c9, .ref c10, .ref c11, .ref c12, .ref c13, .int (-1), .int 0, .int 0, .int 0, .int 0, .int d19, .int d20, ctop]))] := hD
  refine lv_aload_n hx hb dX1_clear_25 rfl (lv_at hl 0 rfl) ?_
  refine lv_iconst (v := 0) hx hb dX1_clear_26 (by decide) ?_
  refine va_put (D := (dC, dI)) (ci := 6) (v := .int 0) (ty := .int) (C := RX1) (T := TX1) (N := 22) hx hb hts (by decide +kernel) tyX1 tyX1_ok nmX1 hown hK hP hD hS 0 rfl rfl 19 (by decide) (hts (.fieldLink RX1 76 "QueryHall$Code" "selectCount" "I") (by decide +kernel)) (fun _ h9 => h9) rfl (by decide +kernel) rfl rfl (Nat.le_of_ble_eq_true rfl) dX1_clear_27 (fun H locs hP hD hS => ?_)
  have hP : va_P (dC, dI) vwCl [(cd, .inr (6, [.ref c0, .ref c1, .ref c2, .ref c3, .ref c4, .ref c5, .ref c6, .ref c7, .ref c8, .ref c9, .ref c10, .ref c11, .ref c12, .ref c13, .int (-1), .int 0, .int 0, .int 0, .int 0, .int 0, .int d20, ctop]))] H := hP
  have hD : va_D A [(cd, .inr (6, [.ref c0, .ref c1, .ref c2, .ref c3, .ref c4, .ref c5, .ref c6, .ref c7, .ref c8, .ref c9, .ref c10, .ref c11, .ref c12, .ref c13, .int (-1), .int 0, .int 0, .int 0, .int 0, .int 0, .int d20, ctop]))] := hD
  refine lv_aload_n hx hb dX1_clear_30 rfl (lv_at hl 0 rfl) ?_
  refine lv_iconst (v := -1) hx hb dX1_clear_31 (by decide) ?_
  refine va_put (D := (dC, dI)) (ci := 6) (v := .int (-1)) (ty := .int) (C := RX1) (T := TX1) (N := 22) hx hb hts (by decide +kernel) tyX1 tyX1_ok nmX1 hown hK hP hD hS 0 rfl rfl 20 (by decide) (hts (.fieldLink RX1 79 "QueryHall$Code" "target" "I") (by decide +kernel)) (fun _ h9 => h9) rfl (by decide +kernel) rfl rfl (Nat.le_of_ble_eq_true rfl) dX1_clear_32 (fun H locs hP hD hS => ?_)
  have hP : va_P (dC, dI) vwCl [(cd, .inr (6, [.ref c0, .ref c1, .ref c2, .ref c3, .ref c4, .ref c5, .ref c6, .ref c7, .ref c8, .ref c9, .ref c10, .ref c11, .ref c12, .ref c13, .int (-1), .int 0, .int 0, .int 0, .int 0, .int 0, .int (-1), ctop]))] H := hP
  have hD : va_D A [(cd, .inr (6, [.ref c0, .ref c1, .ref c2, .ref c3, .ref c4, .ref c5, .ref c6, .ref c7, .ref c8, .ref c9, .ref c10, .ref c11, .ref c12, .ref c13, .int (-1), .int 0, .int 0, .int 0, .int 0, .int 0, .int (-1), ctop]))] := hD
  refine lv_aload_n hx hb dX1_clear_35 rfl (lv_at hl 0 rfl) ?_
  refine lv_null hx hb dX1_clear_36 ?_
  refine va_put (D := (dC, dI)) (ci := 6) (v := .null) (ty := .object "QueryHall$Select") (C := RX1) (T := TX1) (N := 22) hx hb hts (by decide +kernel) tyX1 tyX1_ok nmX1 hown hK hP hD hS 0 rfl rfl 21 (by decide) (hts (.fieldLink RX1 82 "QueryHall$Code" "top" "LQueryHall$Select;") (by decide +kernel)) (fun _ h9 => h9) rfl (by decide +kernel) rfl rfl (Nat.le_of_ble_eq_true rfl) dX1_clear_37 (fun H locs hP hD hS => ?_)
  have hP : va_P (dC, dI) vwCl [(cd, .inr (6, [.ref c0, .ref c1, .ref c2, .ref c3, .ref c4, .ref c5, .ref c6, .ref c7, .ref c8, .ref c9, .ref c10, .ref c11, .ref c12, .ref c13, .int (-1), .int 0, .int 0, .int 0, .int 0, .int 0, .int (-1), .null]))] H := hP
  have hD : va_D A [(cd, .inr (6, [.ref c0, .ref c1, .ref c2, .ref c3, .ref c4, .ref c5, .ref c6, .ref c7, .ref c8, .ref c9, .ref c10, .ref c11, .ref c12, .ref c13, .int (-1), .int 0, .int 0, .int 0, .int 0, .int 0, .int (-1), .null]))] := hD
  have hP9 := hP.sub (ws' := [(cd, .inr (6, [.ref c0, .ref c1, .ref c2, .ref c3, .ref c4, .ref c5, .ref c6, .ref c7, .ref c8, .ref c9, .ref c10, .ref c11, .ref c12, .ref c13, .int (-1), .int 0, .int 0, .int 0, .int 0, .int 0, .int (-1), .null]))]) [0] rfl
  have hD9 := hD.sub (ws' := [(cd, .inr (6, [.ref c0, .ref c1, .ref c2, .ref c3, .ref c4, .ref c5, .ref c6, .ref c7, .ref c8, .ref c9, .ref c10, .ref c11, .ref c12, .ref c13, .int (-1), .int 0, .int 0, .int 0, .int 0, .int 0, .int (-1), .null]))]) [0] (by decide) rfl
  have hK9 := hK.sub (tys' := []) [] rfl
  exact W.vret hx hb hr (fun t ht hW => ⟨⟨(), rfl, trivial, by rw [ht]; exact hP9, va_K.moved hW.alike hK9, hD9⟩, hS.F ht⟩) hS.2.2 dX1_clear_40
set_option maxHeartbeats 4000000 in
set_option maxRecDepth 100000 in
/-- Parser.last() -/
theorem c_X6_last (l : Launch) (dC : Nat → ClassId) (dI : Nat → Nat → Nat) (sz : Nat) (pa w0 w1 w2 w3 : Nat) (k4 k5 k8 k9 k10 : Int32) (kcur : Value) (cd c0 c1 c2 c3 c4 c5 c6 c7 c8 c9 c10 c11 c12 c13 : Nat) (d14 d15 d16 d17 d18 d19 d20 : Int32) (ctop : Value) : Met l yX6_last wsX6_last ({ frames := 0, cells := 0, slots := 0, locals := 0 }) (va_Pc [.ref pa] (fun U => U.heap.size = sz ∧ va_P (dC, dI) vwCl [(pa, .inr (11, [.ref w0, .ref w1, .ref w2, .ref w3, .int k4, .int k5, .ref cd, kcur, .int k8, .int k9, .int k10])), (cd, .inr (6, [.ref c0, .ref c1, .ref c2, .ref c3, .ref c4, .ref c5, .ref c6, .ref c7, .ref c8, .ref c9, .ref c10, .ref c11, .ref c12, .ref c13, .int d14, .int d15, .int d16, .int d17, .int d18, .int d19, .int d20, ctop]))] U.heap ∧ va_K (dC, dI) vwCl [] U ∧ va_D (fun _ => True) [(pa, .inr (11, [.ref w0, .ref w1, .ref w2, .ref w3, .int k4, .int k5, .ref cd, kcur, .int k8, .int k9, .int k10])), (cd, .inr (6, [.ref c0, .ref c1, .ref c2, .ref c3, .ref c4, .ref c5, .ref c6, .ref c7, .ref c8, .ref c9, .ref c10, .ref c11, .ref c12, .ref c13, .int d14, .int d15, .int d16, .int d17, .int d18, .int d19, .int d20, ctop]))])) (va_Qi (fun (r : Int32) (_ : Unit) => r = d15 - 1) (fun (_ : Unit) (t : State) => va_P (dC, dI) vwCl [(pa, .inr (11, [.ref w0, .ref w1, .ref w2, .ref w3, .int k4, .int k5, .ref cd, kcur, .int k8, .int k9, .int k10])), (cd, .inr (6, [.ref c0, .ref c1, .ref c2, .ref c3, .ref c4, .ref c5, .ref c6, .ref c7, .ref c8, .ref c9, .ref c10, .ref c11, .ref c12, .ref c13, .int d14, .int d15, .int d16, .int d17, .int d18, .int d19, .int d20, ctop]))] t.heap ∧ va_K (dC, dI) vwCl [] t ∧ va_D (va_A [(pa, .inr (11, [.ref w0, .ref w1, .ref w2, .ref w3, .int k4, .int k5, .ref cd, kcur, .int k8, .int k9, .int k10])), (cd, .inr (6, [.ref c0, .ref c1, .ref c2, .ref c3, .ref c4, .ref c5, .ref c6, .ref c7, .ref c8, .ref c9, .ref c10, .ref c11, .ref c12, .ref c13, .int d14, .int d15, .int d16, .int d17, .int d18, .int d19, .int d20, ctop]))] sz) [(pa, .inr (11, [.ref w0, .ref w1, .ref w2, .ref w3, .int k4, .int k5, .ref cd, kcur, .int k8, .int k9, .int k10])), (cd, .inr (6, [.ref c0, .ref c1, .ref c2, .ref c3, .ref c4, .ref c5, .ref c6, .ref c7, .ref c8, .ref c9, .ref c10, .ref c11, .ref c12, .ref c13, .int d14, .int d15, .int d16, .int d17, .int d18, .int d19, .int d20, ctop]))]) (va_A [(pa, .inr (11, [.ref w0, .ref w1, .ref w2, .ref w3, .int k4, .int k5, .ref cd, kcur, .int k8, .int k9, .int k10])), (cd, .inr (6, [.ref c0, .ref c1, .ref c2, .ref c3, .ref c4, .ref c5, .ref c6, .ref c7, .ref c8, .ref c9, .ref c10, .ref c11, .ref c12, .ref c13, .int d14, .int d15, .int d16, .int d17, .int d18, .int d19, .int d20, ctop]))] sz)) 0 0 (va_A [(pa, .inr (11, [.ref w0, .ref w1, .ref w2, .ref w3, .int k4, .int k5, .ref cd, kcur, .int k8, .int k9, .int k10])), (cd, .inr (6, [.ref c0, .ref c1, .ref c2, .ref c3, .ref c4, .ref c5, .ref c6, .ref c7, .ref c8, .ref c9, .ref c10, .ref c11, .ref c12, .ref c13, .int d14, .int d15, .int d16, .int d17, .int d18, .int d19, .int d20, ctop]))] sz) := by
  refine Met.ofW (cc := cX6_last) (maxL := 1) (ret := (some .int)) (by decide) rfl ?_
  intro p e s m args below meth c s₁ B hml hv
  obtain ⟨rfl, hsz, hP, hK, hD0⟩ := hv
  have hx := B.exec
  have hb := B.bytes
  have hr := B.returns
  have hts := atoms_spec (ws := wsX6_last) B.pre
  have hown : s.vm.findClass RX6 = some m.cls := findClass_of_methodNamed B.named
  have hlocks := B.notSynchronized
  subst hsz
  have hD := hD0.self (sz := s.heap.size)
  generalize hAe : va_A [(pa, .inr (11, [.ref w0, .ref w1, .ref w2, .ref w3, .int k4, .int k5, .ref cd, kcur, .int k8, .int k9, .int k10])), (cd, .inr (6, [.ref c0, .ref c1, .ref c2, .ref c3, .ref c4, .ref c5, .ref c6, .ref c7, .ref c8, .ref c9, .ref c10, .ref c11, .ref c12, .ref c13, .int d14, .int d15, .int d16, .int d17, .int d18, .int d19, .int d20, ctop]))] s.heap.size = A at hD ⊢
  have hA : ∀ q : Nat, s.heap.size ≤ q → A q := fun q h => by rw [← hAe]; exact Or.inr h
  have hS : va_S A s.heap s.heap [] := va_S.rf
  have hP : va_P (dC, dI) vwCl [(pa, .inr (11, [.ref w0, .ref w1, .ref w2, .ref w3, .int k4, .int k5, .ref cd, kcur, .int k8, .int k9, .int k10])), (cd, .inr (6, [.ref c0, .ref c1, .ref c2, .ref c3, .ref c4, .ref c5, .ref c6, .ref c7, .ref c8, .ref c9, .ref c10, .ref c11, .ref c12, .ref c13, .int d14, .int d15, .int d16, .int d17, .int d18, .int d19, .int d20, ctop]))] s.heap := hP
  have hl := lv_entry ([.ref pa]) (n := 1) (Nat.le_of_ble_eq_true rfl)
  rw [lg_entry_eq]
  generalize (lg_sl ([.ref pa]) ++ List.replicate (1 - (lg_sl ([.ref pa])).length) Slot.unset).toArray = ls at hl ⊢
  have hl : lv_has ls 1 [(0, .ref pa)] := hl
  refine lv_aload_n hx hb dX6_last_0 rfl (lv_at hl 0 rfl) ?_
  refine va_get (D := (dC, dI)) (ci := 11) (v := .ref cd) (C := RX6) (T := TX6) (N := 11) hx hb hts (by decide +kernel) hown hK hP 0 rfl rfl 6 (by decide) (hts (.fieldLink RX6 41 "QueryHall$Parser" "code" "LQueryHall$Code;") (by decide +kernel)) (fun _ h9 => h9) rfl dX6_last_1 ?_
  refine va_get (D := (dC, dI)) (ci := 6) (v := .int d15) (C := RX1) (T := TX1) (N := 22) hx hb hts (by decide +kernel) hown hK hP 1 rfl rfl 15 (by decide) (hts (.fieldLink RX6 131 "QueryHall$Code" "count" "I") (by decide +kernel)) (fun _ h9 => h9) rfl dX6_last_4 ?_
  refine lv_iconst (v := 1) hx hb dX6_last_7 (by decide) ?_
  refine lv_isub hx hb dX6_last_8 ?_
  have hP9 := hP.sub (ws' := [(pa, .inr (11, [.ref w0, .ref w1, .ref w2, .ref w3, .int k4, .int k5, .ref cd, kcur, .int k8, .int k9, .int k10])), (cd, .inr (6, [.ref c0, .ref c1, .ref c2, .ref c3, .ref c4, .ref c5, .ref c6, .ref c7, .ref c8, .ref c9, .ref c10, .ref c11, .ref c12, .ref c13, .int d14, .int d15, .int d16, .int d17, .int d18, .int d19, .int d20, ctop]))]) [0, 1] rfl
  have hD9 := hD.sub (ws' := [(pa, .inr (11, [.ref w0, .ref w1, .ref w2, .ref w3, .int k4, .int k5, .ref cd, kcur, .int k8, .int k9, .int k10])), (cd, .inr (6, [.ref c0, .ref c1, .ref c2, .ref c3, .ref c4, .ref c5, .ref c6, .ref c7, .ref c8, .ref c9, .ref c10, .ref c11, .ref c12, .ref c13, .int d14, .int d15, .int d16, .int d17, .int d18, .int d19, .int d20, ctop]))]) [0, 1] (by decide) rfl
  have hK9 := hK.sub (tys' := []) [] rfl
  exact W.iret (v := d15 - 1) hx hb hr (fun t ht hW => ⟨⟨d15 - 1, (), rfl, rfl, by rw [ht]; exact hP9, va_K.moved hW.alike hK9, hD9⟩, hS.F ht⟩) hS.2.2 dX6_last_9
