abbrev cX1_add : ByteArray := prog_3_method_3_code
def yX1_add : MethodName := ⟨RX1, "add", "(IIIII)I"⟩
abbrev cX1_addName : ByteArray := prog_3_method_4_code
def yX1_addName : MethodName := ⟨RX1, "addName", "(JI)V"⟩
abbrev cX1_addRoot : ByteArray := prog_3_method_5_code
def yX1_addRoot : MethodName := ⟨RX1, "addRoot", "(I)V"⟩
abbrev cX1_leftOf : ByteArray := prog_3_method_8_code
def yX1_leftOf : MethodName := ⟨RX1, "leftOf", "(I)I"⟩
abbrev cX6_setValue : ByteArray := prog_8_method_7_code
def yX6_setValue : MethodName := ⟨RX6, "setValue", "(IJJ)V"⟩
abbrev cX6_accept : ByteArray := prog_8_method_13_code
def yX6_accept : MethodName := ⟨RX6, "accept", "(I)Z"⟩
def wsX1_leftOf : List Cond := .code yX1_leftOf cX1_leftOf 2 (some .int) :: ([.fieldLink RX1 21 "QueryHall$Code" "first" "[I"] ++ wsX10 ++ (vx_atM "java/lang/ArrayIndexOutOfBoundsException" ["java/lang/IndexOutOfBoundsException", "java/lang/RuntimeException", "java/lang/Exception"]).filter goodWord)
def wsX1_add : List Cond := .code yX1_add cX1_add 7 (some .int) :: ([.fieldLink RX1 64 "QueryHall$Code" "count" "I", .fieldLink RX1 11 "QueryHall$Code" "op" "[I", .fieldLink RX1 15 "QueryHall$Code" "at" "[I", .fieldLink RX1 18 "QueryHall$Code" "start" "[I", .fieldLink RX1 21 "QueryHall$Code" "first" "[I", .fieldLink RX1 24 "QueryHall$Code" "arg" "[I"] ++ wsX10 ++ (vx_atM "java/lang/ArrayIndexOutOfBoundsException" ["java/lang/IndexOutOfBoundsException", "java/lang/RuntimeException", "java/lang/Exception"]).filter goodWord)
def wsX1_addName : List Cond := .code yX1_addName cX1_addName 4 none :: ([.fieldLink RX1 67 "QueryHall$Code" "nameCount" "I", .fieldLink RX1 31 "QueryHall$Code" "names" "[J", .fieldLink RX1 34 "QueryHall$Code" "nameAt" "[I"] ++ wsX10 ++ (vx_atM "java/lang/ArrayIndexOutOfBoundsException" ["java/lang/IndexOutOfBoundsException", "java/lang/RuntimeException", "java/lang/Exception"]).filter goodWord)
def wsX1_addRoot : List Cond := .code yX1_addRoot cX1_addRoot 2 none :: ([.fieldLink RX1 70 "QueryHall$Code" "rootCount" "I", .fieldLink RX1 44 "QueryHall$Code" "roots" "[I"] ++ wsX10 ++ (vx_atM "java/lang/ArrayIndexOutOfBoundsException" ["java/lang/IndexOutOfBoundsException", "java/lang/RuntimeException", "java/lang/Exception"]).filter goodWord)
def wsX6_setValue : List Cond := .code yX6_setValue cX6_setValue 6 none :: ([.fieldLink RX6 22 "QueryHall$Parser" "values" "[J", .fieldLink RX6 77 "QueryHall$Parser" "tokens" "I"] ++ wsX60 ++ (vx_atM "java/lang/ArrayIndexOutOfBoundsException" ["java/lang/IndexOutOfBoundsException", "java/lang/RuntimeException", "java/lang/Exception"]).filter goodWord)
def wsX6_accept : List Cond := .code yX6_accept cX6_accept 2 (some .boolean) :: ([.fieldLink RX6 15 "QueryHall$Parser" "kinds" "[I", .fieldLink RX6 58 "QueryHall$Parser" "pos" "I"] ++ wsX60 ++ (vx_atM "java/lang/ArrayIndexOutOfBoundsException" ["java/lang/IndexOutOfBoundsException", "java/lang/RuntimeException", "java/lang/Exception"]).filter goodWord)
theorem dX1_add_0 : decode cX1_add 0 = .ok (.aload_n 0, 1) := by decide +kernel
theorem dX1_add_1 : decode cX1_add 1 = .ok (.getfield 64, 3) := by decide +kernel
theorem dX1_add_4 : decode cX1_add 4 = .ok (.sipush 512, 3) := by decide +kernel
theorem dX1_add_7 : decode cX1_add 7 = .ok (.if_icmp .ge 10, 3) := by decide +kernel
theorem dX1_add_10 : decode cX1_add 10 = .ok (.aload_n 0, 1) := by decide +kernel
theorem dX1_add_11 : decode cX1_add 11 = .ok (.getfield 64, 3) := by decide +kernel
theorem dX1_add_14 : decode cX1_add 14 = .ok (.goto 6, 3) := by decide +kernel
theorem dX1_add_20 : decode cX1_add 20 = .ok (.istore 6, 2) := by decide +kernel
theorem dX1_add_22 : decode cX1_add 22 = .ok (.aload_n 0, 1) := by decide +kernel
theorem dX1_add_23 : decode cX1_add 23 = .ok (.getfield 11, 3) := by decide +kernel
theorem dX1_add_26 : decode cX1_add 26 = .ok (.iload 6, 2) := by decide +kernel
theorem dX1_add_28 : decode cX1_add 28 = .ok (.iload_n 1, 1) := by decide +kernel
theorem dX1_add_29 : decode cX1_add 29 = .ok (.iastore, 1) := by decide +kernel
theorem dX1_add_30 : decode cX1_add 30 = .ok (.aload_n 0, 1) := by decide +kernel
theorem dX1_add_31 : decode cX1_add 31 = .ok (.getfield 15, 3) := by decide +kernel
theorem dX1_add_34 : decode cX1_add 34 = .ok (.iload 6, 2) := by decide +kernel
theorem dX1_add_36 : decode cX1_add 36 = .ok (.iload_n 2, 1) := by decide +kernel
theorem dX1_add_37 : decode cX1_add 37 = .ok (.iastore, 1) := by decide +kernel
theorem dX1_add_38 : decode cX1_add 38 = .ok (.aload_n 0, 1) := by decide +kernel
theorem dX1_add_39 : decode cX1_add 39 = .ok (.getfield 18, 3) := by decide +kernel
theorem dX1_add_42 : decode cX1_add 42 = .ok (.iload 6, 2) := by decide +kernel
theorem dX1_add_44 : decode cX1_add 44 = .ok (.iload_n 3, 1) := by decide +kernel
theorem dX1_add_45 : decode cX1_add 45 = .ok (.iastore, 1) := by decide +kernel
theorem dX1_add_46 : decode cX1_add 46 = .ok (.aload_n 0, 1) := by decide +kernel
theorem dX1_add_47 : decode cX1_add 47 = .ok (.getfield 21, 3) := by decide +kernel
theorem dX1_add_50 : decode cX1_add 50 = .ok (.iload 6, 2) := by decide +kernel
theorem dX1_add_52 : decode cX1_add 52 = .ok (.iload 4, 2) := by decide +kernel
theorem dX1_add_54 : decode cX1_add 54 = .ok (.iastore, 1) := by decide +kernel
theorem dX1_add_55 : decode cX1_add 55 = .ok (.aload_n 0, 1) := by decide +kernel
theorem dX1_add_56 : decode cX1_add 56 = .ok (.getfield 24, 3) := by decide +kernel
theorem dX1_add_59 : decode cX1_add 59 = .ok (.iload 6, 2) := by decide +kernel
theorem dX1_add_61 : decode cX1_add 61 = .ok (.iload 5, 2) := by decide +kernel
theorem dX1_add_63 : decode cX1_add 63 = .ok (.iastore, 1) := by decide +kernel
theorem dX1_add_64 : decode cX1_add 64 = .ok (.aload_n 0, 1) := by decide +kernel
theorem dX1_add_65 : decode cX1_add 65 = .ok (.iload 6, 2) := by decide +kernel
theorem dX1_add_67 : decode cX1_add 67 = .ok (.iconst 1, 1) := by decide +kernel
theorem dX1_add_68 : decode cX1_add 68 = .ok (.iadd, 1) := by decide +kernel
theorem dX1_add_69 : decode cX1_add 69 = .ok (.putfield 64, 3) := by decide +kernel
theorem dX1_add_72 : decode cX1_add 72 = .ok (.iload 6, 2) := by decide +kernel
theorem dX1_add_74 : decode cX1_add 74 = .ok (.ireturn, 1) := by decide +kernel
theorem dX1_addName_0 : decode cX1_addName 0 = .ok (.aload_n 0, 1) := by decide +kernel
theorem dX1_addName_1 : decode cX1_addName 1 = .ok (.getfield 67, 3) := by decide +kernel
theorem dX1_addName_4 : decode cX1_addName 4 = .ok (.bipush 6, 2) := by decide +kernel
theorem dX1_addName_6 : decode cX1_addName 6 = .ok (.if_icmp .gt 33, 3) := by decide +kernel
theorem dX1_addName_9 : decode cX1_addName 9 = .ok (.aload_n 0, 1) := by decide +kernel
theorem dX1_addName_10 : decode cX1_addName 10 = .ok (.getfield 31, 3) := by decide +kernel
theorem dX1_addName_13 : decode cX1_addName 13 = .ok (.aload_n 0, 1) := by decide +kernel
theorem dX1_addName_14 : decode cX1_addName 14 = .ok (.getfield 67, 3) := by decide +kernel
theorem dX1_addName_17 : decode cX1_addName 17 = .ok (.lload_n 1, 1) := by decide +kernel
theorem dX1_addName_18 : decode cX1_addName 18 = .ok (.lastore, 1) := by decide +kernel
theorem dX1_addName_19 : decode cX1_addName 19 = .ok (.aload_n 0, 1) := by decide +kernel
theorem dX1_addName_20 : decode cX1_addName 20 = .ok (.getfield 34, 3) := by decide +kernel
theorem dX1_addName_23 : decode cX1_addName 23 = .ok (.aload_n 0, 1) := by decide +kernel
theorem dX1_addName_24 : decode cX1_addName 24 = .ok (.getfield 67, 3) := by decide +kernel
theorem dX1_addName_27 : decode cX1_addName 27 = .ok (.iload_n 3, 1) := by decide +kernel
theorem dX1_addName_28 : decode cX1_addName 28 = .ok (.iastore, 1) := by decide +kernel
theorem dX1_addName_29 : decode cX1_addName 29 = .ok (.aload_n 0, 1) := by decide +kernel
theorem dX1_addName_30 : decode cX1_addName 30 = .ok (.dup, 1) := by decide +kernel
theorem dX1_addName_31 : decode cX1_addName 31 = .ok (.getfield 67, 3) := by decide +kernel
theorem dX1_addName_34 : decode cX1_addName 34 = .ok (.iconst 1, 1) := by decide +kernel
theorem dX1_addName_35 : decode cX1_addName 35 = .ok (.iadd, 1) := by decide +kernel
theorem dX1_addName_36 : decode cX1_addName 36 = .ok (.putfield 67, 3) := by decide +kernel
theorem dX1_addName_39 : decode cX1_addName 39 = .ok (.return_, 1) := by decide +kernel
theorem dX1_addRoot_0 : decode cX1_addRoot 0 = .ok (.aload_n 0, 1) := by decide +kernel
theorem dX1_addRoot_1 : decode cX1_addRoot 1 = .ok (.getfield 70, 3) := by decide +kernel
theorem dX1_addRoot_4 : decode cX1_addRoot 4 = .ok (.aload_n 0, 1) := by decide +kernel
theorem dX1_addRoot_5 : decode cX1_addRoot 5 = .ok (.getfield 44, 3) := by decide +kernel
theorem dX1_addRoot_8 : decode cX1_addRoot 8 = .ok (.arraylength, 1) := by decide +kernel
theorem dX1_addRoot_9 : decode cX1_addRoot 9 = .ok (.if_icmp .ge 23, 3) := by decide +kernel
theorem dX1_addRoot_12 : decode cX1_addRoot 12 = .ok (.aload_n 0, 1) := by decide +kernel
theorem dX1_addRoot_13 : decode cX1_addRoot 13 = .ok (.getfield 44, 3) := by decide +kernel
theorem dX1_addRoot_16 : decode cX1_addRoot 16 = .ok (.aload_n 0, 1) := by decide +kernel
theorem dX1_addRoot_17 : decode cX1_addRoot 17 = .ok (.getfield 70, 3) := by decide +kernel
theorem dX1_addRoot_20 : decode cX1_addRoot 20 = .ok (.iload_n 1, 1) := by decide +kernel
theorem dX1_addRoot_21 : decode cX1_addRoot 21 = .ok (.iastore, 1) := by decide +kernel
theorem dX1_addRoot_22 : decode cX1_addRoot 22 = .ok (.aload_n 0, 1) := by decide +kernel
theorem dX1_addRoot_23 : decode cX1_addRoot 23 = .ok (.dup, 1) := by decide +kernel
theorem dX1_addRoot_24 : decode cX1_addRoot 24 = .ok (.getfield 70, 3) := by decide +kernel
theorem dX1_addRoot_27 : decode cX1_addRoot 27 = .ok (.iconst 1, 1) := by decide +kernel
theorem dX1_addRoot_28 : decode cX1_addRoot 28 = .ok (.iadd, 1) := by decide +kernel
theorem dX1_addRoot_29 : decode cX1_addRoot 29 = .ok (.putfield 70, 3) := by decide +kernel
theorem dX1_addRoot_32 : decode cX1_addRoot 32 = .ok (.return_, 1) := by decide +kernel
theorem dX1_leftOf_0 : decode cX1_leftOf 0 = .ok (.iload_n 1, 1) := by decide +kernel
theorem dX1_leftOf_1 : decode cX1_leftOf 1 = .ok (.iconst 1, 1) := by decide +kernel
theorem dX1_leftOf_2 : decode cX1_leftOf 2 = .ok (.if_icmp .ge 7, 3) := by decide +kernel
theorem dX1_leftOf_5 : decode cX1_leftOf 5 = .ok (.iconst (-1), 1) := by decide +kernel
theorem dX1_leftOf_6 : decode cX1_leftOf 6 = .ok (.goto 13, 3) := by decide +kernel
theorem dX1_leftOf_9 : decode cX1_leftOf 9 = .ok (.aload_n 0, 1) := by decide +kernel
theorem dX1_leftOf_10 : decode cX1_leftOf 10 = .ok (.getfield 21, 3) := by decide +kernel
theorem dX1_leftOf_13 : decode cX1_leftOf 13 = .ok (.iload_n 1, 1) := by decide +kernel
theorem dX1_leftOf_14 : decode cX1_leftOf 14 = .ok (.iconst 1, 1) := by decide +kernel
theorem dX1_leftOf_15 : decode cX1_leftOf 15 = .ok (.isub, 1) := by decide +kernel
theorem dX1_leftOf_16 : decode cX1_leftOf 16 = .ok (.iaload, 1) := by decide +kernel
theorem dX1_leftOf_17 : decode cX1_leftOf 17 = .ok (.iconst 1, 1) := by decide +kernel
theorem dX1_leftOf_18 : decode cX1_leftOf 18 = .ok (.isub, 1) := by decide +kernel
theorem dX1_leftOf_19 : decode cX1_leftOf 19 = .ok (.ireturn, 1) := by decide +kernel
theorem dX6_setValue_0 : decode cX6_setValue 0 = .ok (.aload_n 0, 1) := by decide +kernel
theorem dX6_setValue_1 : decode cX6_setValue 1 = .ok (.getfield 22, 3) := by decide +kernel
theorem dX6_setValue_4 : decode cX6_setValue 4 = .ok (.aload_n 0, 1) := by decide +kernel
theorem dX6_setValue_5 : decode cX6_setValue 5 = .ok (.getfield 77, 3) := by decide +kernel
theorem dX6_setValue_8 : decode cX6_setValue 8 = .ok (.iconst 3, 1) := by decide +kernel
theorem dX6_setValue_9 : decode cX6_setValue 9 = .ok (.imul, 1) := by decide +kernel
theorem dX6_setValue_10 : decode cX6_setValue 10 = .ok (.iload_n 1, 1) := by decide +kernel
theorem dX6_setValue_11 : decode cX6_setValue 11 = .ok (.i2l, 1) := by decide +kernel
theorem dX6_setValue_12 : decode cX6_setValue 12 = .ok (.lastore, 1) := by decide +kernel
theorem dX6_setValue_13 : decode cX6_setValue 13 = .ok (.aload_n 0, 1) := by decide +kernel
theorem dX6_setValue_14 : decode cX6_setValue 14 = .ok (.getfield 22, 3) := by decide +kernel
theorem dX6_setValue_17 : decode cX6_setValue 17 = .ok (.aload_n 0, 1) := by decide +kernel
theorem dX6_setValue_18 : decode cX6_setValue 18 = .ok (.getfield 77, 3) := by decide +kernel
theorem dX6_setValue_21 : decode cX6_setValue 21 = .ok (.iconst 3, 1) := by decide +kernel
theorem dX6_setValue_22 : decode cX6_setValue 22 = .ok (.imul, 1) := by decide +kernel
theorem dX6_setValue_23 : decode cX6_setValue 23 = .ok (.iconst 1, 1) := by decide +kernel
theorem dX6_setValue_24 : decode cX6_setValue 24 = .ok (.iadd, 1) := by decide +kernel
theorem dX6_setValue_25 : decode cX6_setValue 25 = .ok (.lload_n 2, 1) := by decide +kernel
theorem dX6_setValue_26 : decode cX6_setValue 26 = .ok (.lastore, 1) := by decide +kernel
theorem dX6_setValue_27 : decode cX6_setValue 27 = .ok (.aload_n 0, 1) := by decide +kernel
theorem dX6_setValue_28 : decode cX6_setValue 28 = .ok (.getfield 22, 3) := by decide +kernel
theorem dX6_setValue_31 : decode cX6_setValue 31 = .ok (.aload_n 0, 1) := by decide +kernel
theorem dX6_setValue_32 : decode cX6_setValue 32 = .ok (.getfield 77, 3) := by decide +kernel
theorem dX6_setValue_35 : decode cX6_setValue 35 = .ok (.iconst 3, 1) := by decide +kernel
theorem dX6_setValue_36 : decode cX6_setValue 36 = .ok (.imul, 1) := by decide +kernel
theorem dX6_setValue_37 : decode cX6_setValue 37 = .ok (.iconst 2, 1) := by decide +kernel
theorem dX6_setValue_38 : decode cX6_setValue 38 = .ok (.iadd, 1) := by decide +kernel
theorem dX6_setValue_39 : decode cX6_setValue 39 = .ok (.lload 4, 2) := by decide +kernel
theorem dX6_setValue_41 : decode cX6_setValue 41 = .ok (.lastore, 1) := by decide +kernel
theorem dX6_setValue_42 : decode cX6_setValue 42 = .ok (.return_, 1) := by decide +kernel
theorem dX6_accept_0 : decode cX6_accept 0 = .ok (.aload_n 0, 1) := by decide +kernel
theorem dX6_accept_1 : decode cX6_accept 1 = .ok (.getfield 15, 3) := by decide +kernel
theorem dX6_accept_4 : decode cX6_accept 4 = .ok (.aload_n 0, 1) := by decide +kernel
theorem dX6_accept_5 : decode cX6_accept 5 = .ok (.getfield 58, 3) := by decide +kernel
theorem dX6_accept_8 : decode cX6_accept 8 = .ok (.iaload, 1) := by decide +kernel
theorem dX6_accept_9 : decode cX6_accept 9 = .ok (.iload_n 1, 1) := by decide +kernel
theorem dX6_accept_10 : decode cX6_accept 10 = .ok (.if_icmp .eq 5, 3) := by decide +kernel
theorem dX6_accept_13 : decode cX6_accept 13 = .ok (.iconst 0, 1) := by decide +kernel
theorem dX6_accept_14 : decode cX6_accept 14 = .ok (.ireturn, 1) := by decide +kernel
theorem dX6_accept_15 : decode cX6_accept 15 = .ok (.aload_n 0, 1) := by decide +kernel
theorem dX6_accept_16 : decode cX6_accept 16 = .ok (.dup, 1) := by decide +kernel
theorem dX6_accept_17 : decode cX6_accept 17 = .ok (.getfield 58, 3) := by decide +kernel
theorem dX6_accept_20 : decode cX6_accept 20 = .ok (.iconst 1, 1) := by decide +kernel
theorem dX6_accept_21 : decode cX6_accept 21 = .ok (.iadd, 1) := by decide +kernel
theorem dX6_accept_22 : decode cX6_accept 22 = .ok (.putfield 58, 3) := by decide +kernel
theorem dX6_accept_25 : decode cX6_accept 25 = .ok (.iconst 1, 1) := by decide +kernel
theorem dX6_accept_26 : decode cX6_accept 26 = .ok (.ireturn, 1) := by decide +kernel
set_option maxHeartbeats 4000000 in
set_option maxRecDepth 100000 in
/-- Code.add: where there is room -/
theorem c_X1_add (l : Launch) (dC : Nat → ClassId) (dI : Nat → Nat → Nat) (sz : Nat) (cd c0 c1 c2 c3 c4 c5 c6 c7 c8 c9 c10 c11 c12 c13 : Nat) (d14 d15 d16 d17 d18 d19 d20 : Int32) (ctop : Value) (cI : ClassId) (u0 u1 u2 u3 u4 : Nat → Int32) (p0 p1 p2 p3 p4 : Int32) (hlt : ¬ 512 ≤ d15) (hin : vp_in d15 512) : Met l yX1_add wsX1_add ({ frames := 0, cells := 0, slots := 0, locals := 0 }) (va_Pc [.ref cd, .int p0, .int p1, .int p2, .int p3, .int p4] (fun U => U.heap.size = sz ∧ va_P (dC, dI) vwCl [(cd, .inr (6, [.ref c0, .ref c1, .ref c2, .ref c3, .ref c4, .ref c5, .ref c6, .ref c7, .ref c8, .ref c9, .ref c10, .ref c11, .ref c12, .ref c13, .int d14, .int d15, .int d16, .int d17, .int d18, .int d19, .int d20, ctop])), (c0, .inl (cI, 512, .inl u0)), (c1, .inl (cI, 512, .inl u1)), (c2, .inl (cI, 512, .inl u2)), (c3, .inl (cI, 512, .inl u3)), (c4, .inl (cI, 512, .inl u4))] U.heap ∧ va_K (dC, dI) vwCl [(cI, .int)] U ∧ va_D (fun _ => True) [(cd, .inr (6, [.ref c0, .ref c1, .ref c2, .ref c3, .ref c4, .ref c5, .ref c6, .ref c7, .ref c8, .ref c9, .ref c10, .ref c11, .ref c12, .ref c13, .int d14, .int d15, .int d16, .int d17, .int d18, .int d19, .int d20, ctop])), (c0, .inl (cI, 512, .inl u0)), (c1, .inl (cI, 512, .inl u1)), (c2, .inl (cI, 512, .inl u2)), (c3, .inl (cI, 512, .inl u3)), (c4, .inl (cI, 512, .inl u4))])) (va_Qi (fun (r : Int32) (_ : Unit) => r = d15) (fun (_ : Unit) (t : State) => va_P (dC, dI) vwCl [(cd, .inr (6, [.ref c0, .ref c1, .ref c2, .ref c3, .ref c4, .ref c5, .ref c6, .ref c7, .ref c8, .ref c9, .ref c10, .ref c11, .ref c12, .ref c13, .int d14, .int (d15 + 1), .int d16, .int d17, .int d18, .int d19, .int d20, ctop])), (c0, .inl (cI, 512, .inl (upd u0 d15.toNatClampNeg p0))), (c1, .inl (cI, 512, .inl (upd u1 d15.toNatClampNeg p1))), (c2, .inl (cI, 512, .inl (upd u2 d15.toNatClampNeg p2))), (c3, .inl (cI, 512, .inl (upd u3 d15.toNatClampNeg p3))), (c4, .inl (cI, 512, .inl (upd u4 d15.toNatClampNeg p4)))] t.heap ∧ va_K (dC, dI) vwCl [(cI, .int)] t ∧ va_D (va_A [(cd, .inr (6, [.ref c0, .ref c1, .ref c2, .ref c3, .ref c4, .ref c5, .ref c6, .ref c7, .ref c8, .ref c9, .ref c10, .ref c11, .ref c12, .ref c13, .int d14, .int d15, .int d16, .int d17, .int d18, .int d19, .int d20, ctop])), (c0, .inl (cI, 512, .inl u0)), (c1, .inl (cI, 512, .inl u1)), (c2, .inl (cI, 512, .inl u2)), (c3, .inl (cI, 512, .inl u3)), (c4, .inl (cI, 512, .inl u4))] sz) [(cd, .inr (6, [.ref c0, .ref c1, .ref c2, .ref c3, .ref c4, .ref c5, .ref c6, .ref c7, .ref c8, .ref c9, .ref c10, .ref c11, .ref c12, .ref c13, .int d14, .int (d15 + 1), .int d16, .int d17, .int d18, .int d19, .int d20, ctop])), (c0, .inl (cI, 512, .inl (upd u0 d15.toNatClampNeg p0))), (c1, .inl (cI, 512, .inl (upd u1 d15.toNatClampNeg p1))), (c2, .inl (cI, 512, .inl (upd u2 d15.toNatClampNeg p2))), (c3, .inl (cI, 512, .inl (upd u3 d15.toNatClampNeg p3))), (c4, .inl (cI, 512, .inl (upd u4 d15.toNatClampNeg p4)))]) (va_A [(cd, .inr (6, [.ref c0, .ref c1, .ref c2, .ref c3, .ref c4, .ref c5, .ref c6, .ref c7, .ref c8, .ref c9, .ref c10, .ref c11, .ref c12, .ref c13, .int d14, .int d15, .int d16, .int d17, .int d18, .int d19, .int d20, ctop])), (c0, .inl (cI, 512, .inl u0)), (c1, .inl (cI, 512, .inl u1)), (c2, .inl (cI, 512, .inl u2)), (c3, .inl (cI, 512, .inl u3)), (c4, .inl (cI, 512, .inl u4))] sz)) 0 0 (va_A [(cd, .inr (6, [.ref c0, .ref c1, .ref c2, .ref c3, .ref c4, .ref c5, .ref c6, .ref c7, .ref c8, .ref c9, .ref c10, .ref c11, .ref c12, .ref c13, .int d14, .int d15, .int d16, .int d17, .int d18, .int d19, .int d20, ctop])), (c0, .inl (cI, 512, .inl u0)), (c1, .inl (cI, 512, .inl u1)), (c2, .inl (cI, 512, .inl u2)), (c3, .inl (cI, 512, .inl u3)), (c4, .inl (cI, 512, .inl u4))] sz) := by
  refine Met.ofW (cc := cX1_add) (maxL := 7) (ret := (some .int)) (by decide) rfl ?_
  intro p e s m args below meth c s₁ B hml hv
  obtain ⟨rfl, hsz, hP, hK, hD0⟩ := hv
  have hx := B.exec
  have hb := B.bytes
  have hr := B.returns
  have hts := atoms_spec (ws := wsX1_add) B.pre
  have hown : s.vm.findClass RX1 = some m.cls := findClass_of_methodNamed B.named
  have hlocks := B.notSynchronized
  subst hsz
  have hD := hD0.self (sz := s.heap.size)
  generalize hAe : va_A [(cd, .inr (6, [.ref c0, .ref c1, .ref c2, .ref c3, .ref c4, .ref c5, .ref c6, .ref c7, .ref c8, .ref c9, .ref c10, .ref c11, .ref c12, .ref c13, .int d14, .int d15, .int d16, .int d17, .int d18, .int d19, .int d20, ctop])), (c0, .inl (cI, 512, .inl u0)), (c1, .inl (cI, 512, .inl u1)), (c2, .inl (cI, 512, .inl u2)), (c3, .inl (cI, 512, .inl u3)), (c4, .inl (cI, 512, .inl u4))] s.heap.size = A at hD ⊢
  have hA : ∀ q : Nat, s.heap.size ≤ q → A q := fun q h => by rw [← hAe]; exact Or.inr h
  have hS : va_S A s.heap s.heap [] := va_S.rf
  have hP : va_P (dC, dI) vwCl [(cd, .inr (6, [.ref c0, .ref c1, .ref c2, .ref c3, .ref c4, .ref c5, .ref c6, .ref c7, .ref c8, .ref c9, .ref c10, .ref c11, .ref c12, .ref c13, .int d14, .int d15, .int d16, .int d17, .int d18, .int d19, .int d20, ctop])), (c0, .inl (cI, 512, .inl u0)), (c1, .inl (cI, 512, .inl u1)), (c2, .inl (cI, 512, .inl u2)), (c3, .inl (cI, 512, .inl u3)), (c4, .inl (cI, 512, .inl u4))] s.heap := hP
  have hl := lv_entry ([.ref cd, .int p0, .int p1, .int p2, .int p3, .int p4]) (n := 7) (Nat.le_of_ble_eq_true rfl)
  rw [lg_entry_eq]
  generalize (lg_sl ([.ref cd, .int p0, .int p1, .int p2, .int p3, .int p4]) ++ List.replicate (7 - (lg_sl ([.ref cd, .int p0, .int p1, .int p2, .int p3, .int p4])).length) Slot.unset).toArray = ls at hl ⊢
  have hl : lv_has ls 7 [(0, .ref cd), (1, .int p0), (2, .int p1), (3, .int p2), (4, .int p3), (5, .int p4)] := hl
  refine lv_aload_n hx hb dX1_add_0 rfl (lv_at hl 0 rfl) ?_
  refine va_get (D := (dC, dI)) (ci := 6) (v := .int d15) (C := RX1) (T := TX1) (N := 22) hx hb hts (by decide +kernel) hown hK hP 0 rfl rfl 15 (by decide) (hts (.fieldLink RX1 64 "QueryHall$Code" "count" "I") (by decide +kernel)) (fun _ h9 => h9) rfl dX1_add_1 ?_
  refine lv_sipush (v := 512) hx hb dX1_add_4 (by decide) ?_
  refine lv_icmp_ge (tgt := 17) hx hb dX1_add_7 (by decide) (fun c_1 => absurd c_1 (hlt)) (fun c_1 => ?_)
  refine lv_aload_n hx hb dX1_add_10 rfl (lv_at hl 0 rfl) ?_
  refine va_get (D := (dC, dI)) (ci := 6) (v := .int d15) (C := RX1) (T := TX1) (N := 22) hx hb hts (by decide +kernel) hown hK hP 0 rfl rfl 15 (by decide) (hts (.fieldLink RX1 64 "QueryHall$Code" "count" "I") (by decide +kernel)) (fun _ h9 => h9) rfl dX1_add_11 ?_
  refine lv_goto (tgt := 20) hx hb dX1_add_14 (by decide) ?_
  refine lv_istore (lv' := [(6, .int d15), (0, .ref cd), (1, .int p0), (2, .int p1), (3, .int p2), (4, .int p3), (5, .int p4)]) hx hb dX1_add_20 hl (by decide) rfl (fun ls hl => ?_)
  refine lv_aload_n hx hb dX1_add_22 rfl (lv_at hl 1 rfl) ?_
  refine va_get (D := (dC, dI)) (ci := 6) (v := .ref c0) (C := RX1) (T := TX1) (N := 22) hx hb hts (by decide +kernel) hown hK hP 0 rfl rfl 0 (by decide) (hts (.fieldLink RX1 11 "QueryHall$Code" "op" "[I") (by decide +kernel)) (fun _ h9 => h9) rfl dX1_add_23 ?_
  refine lv_iload hx hb dX1_add_26 (lv_at hl 0 rfl) ?_
  refine lv_iload_n hx hb dX1_add_28 rfl (lv_at hl 2 rfl) ?_
  refine va_iast hx hb hK hP hD hS 1 0 rfl rfl hin dX1_add_29 (fun H locs hP hD hS => ?_)
  have hP : va_P (dC, dI) vwCl [(cd, .inr (6, [.ref c0, .ref c1, .ref c2, .ref c3, .ref c4, .ref c5, .ref c6, .ref c7, .ref c8, .ref c9, .ref c10, .ref c11, .ref c12, .ref c13, .int d14, .int d15, .int d16, .int d17, .int d18, .int d19, .int d20, ctop])), (c0, .inl (cI, 512, .inl (upd u0 d15.toNatClampNeg p0))), (c1, .inl (cI, 512, .inl u1)), (c2, .inl (cI, 512, .inl u2)), (c3, .inl (cI, 512, .inl u3)), (c4, .inl (cI, 512, .inl u4))] H := hP
  have hD : va_D A [(cd, .inr (6, [.ref c0, .ref c1, .ref c2, .ref c3, .ref c4, .ref c5, .ref c6, .ref c7, .ref c8, .ref c9, .ref c10, .ref c11, .ref c12, .ref c13, .int d14, .int d15, .int d16, .int d17, .int d18, .int d19, .int d20, ctop])), (c0, .inl (cI, 512, .inl (upd u0 d15.toNatClampNeg p0))), (c1, .inl (cI, 512, .inl u1)), (c2, .inl (cI, 512, .inl u2)), (c3, .inl (cI, 512, .inl u3)), (c4, .inl (cI, 512, .inl u4))] := hD
  refine lv_aload_n hx hb dX1_add_30 rfl (lv_at hl 1 rfl) ?_
  refine va_get (D := (dC, dI)) (ci := 6) (v := .ref c1) (C := RX1) (T := TX1) (N := 22) hx hb hts (by decide +kernel) hown hK hP 0 rfl rfl 1 (by decide) (hts (.fieldLink RX1 15 "QueryHall$Code" "at" "[I") (by decide +kernel)) (fun _ h9 => h9) rfl dX1_add_31 ?_
  refine lv_iload hx hb dX1_add_34 (lv_at hl 0 rfl) ?_
  refine lv_iload_n hx hb dX1_add_36 rfl (lv_at hl 3 rfl) ?_
  refine va_iast hx hb hK hP hD hS 2 0 rfl rfl hin dX1_add_37 (fun H locs hP hD hS => ?_)
  have hP : va_P (dC, dI) vwCl [(cd, .inr (6, [.ref c0, .ref c1, .ref c2, .ref c3, .ref c4, .ref c5, .ref c6, .ref c7, .ref c8, .ref c9, .ref c10, .ref c11, .ref c12, .ref c13, .int d14, .int d15, .int d16, .int d17, .int d18, .int d19, .int d20, ctop])), (c0, .inl (cI, 512, .inl (upd u0 d15.toNatClampNeg p0))), (c1, .inl (cI, 512, .inl (upd u1 d15.toNatClampNeg p1))), (c2, .inl (cI, 512, .inl u2)), (c3, .inl (cI, 512, .inl u3)), (c4, .inl (cI, 512, .inl u4))] H := hP
  have hD : va_D A [(cd, .inr (6, [.ref c0, .ref c1, .ref c2, .ref c3, .ref c4, .ref c5, .ref c6, .ref c7, .ref c8, .ref c9, .ref c10, .ref c11, .ref c12, .ref c13, .int d14, .int d15, .int d16, .int d17, .int d18, .int d19, .int d20, ctop])), (c0, .inl (cI, 512, .inl (upd u0 d15.toNatClampNeg p0))), (c1, .inl (cI, 512, .inl (upd u1 d15.toNatClampNeg p1))), (c2, .inl (cI, 512, .inl u2)), (c3, .inl (cI, 512, .inl u3)), (c4, .inl (cI, 512, .inl u4))] := hD
  refine lv_aload_n hx hb dX1_add_38 rfl (lv_at hl 1 rfl) ?_
  refine va_get (D := (dC, dI)) (ci := 6) (v := .ref c2) (C := RX1) (T := TX1) (N := 22) hx hb hts (by decide +kernel) hown hK hP 0 rfl rfl 2 (by decide) (hts (.fieldLink RX1 18 "QueryHall$Code" "start" "[I") (by decide +kernel)) (fun _ h9 => h9) rfl dX1_add_39 ?_
  refine lv_iload hx hb dX1_add_42 (lv_at hl 0 rfl) ?_
  refine lv_iload_n hx hb dX1_add_44 rfl (lv_at hl 4 rfl) ?_
  refine va_iast hx hb hK hP hD hS 3 0 rfl rfl hin dX1_add_45 (fun H locs hP hD hS => ?_)
  have hP : va_P (dC, dI) vwCl [(cd, .inr (6, [.ref c0, .ref c1, .ref c2, .ref c3, .ref c4, .ref c5, .ref c6, .ref c7, .ref c8, .ref c9, .ref c10, .ref c11, .ref c12, .ref c13, .int d14, .int d15, .int d16, .int d17, .int d18, .int d19, .int d20, ctop])), (c0, .inl (cI, 512, .inl (upd u0 d15.toNatClampNeg p0))), (c1, .inl (cI, 512, .inl (upd u1 d15.toNatClampNeg p1))), (c2, .inl (cI, 512, .inl (upd u2 d15.toNatClampNeg p2))), (c3, .inl (cI, 512, .inl u3)), (c4, .inl (cI, 512, .inl u4))] H := hP
  have hD : va_D A [(cd, .inr (6, [.ref c0, .ref c1, .ref c2, .ref c3, .ref c4, .ref c5, .ref c6, .ref c7, .ref c8, .ref c9, .ref c10, .ref c11, .ref c12, .ref c13, .int d14, .int d15, .int d16, .int d17, .int d18, .int d19, .int d20, ctop])), (c0, .inl (cI, 512, .inl (upd u0 d15.toNatClampNeg p0))), (c1, .inl (cI, 512, .inl (upd u1 d15.toNatClampNeg p1))), (c2, .inl (cI, 512, .inl (upd u2 d15.toNatClampNeg p2))), (c3, .inl (cI, 512, .inl u3)), (c4, .inl (cI, 512, .inl u4))] := hD
  refine lv_aload_n hx hb dX1_add_46 rfl (lv_at hl 1 rfl) ?_
  refine va_get (D := (dC, dI)) (ci := 6) (v := .ref c3) (C := RX1) (T := TX1) (N := 22) hx hb hts (by decide +kernel) hown hK hP 0 rfl rfl 3 (by decide) (hts (.fieldLink RX1 21 "QueryHall$Code" "first" "[I") (by decide +kernel)) (fun _ h9 => h9) rfl dX1_add_47 ?_
  refine lv_iload hx hb dX1_add_50 (lv_at hl 0 rfl) ?_
  refine lv_iload hx hb dX1_add_52 (lv_at hl 5 rfl) ?_
  refine va_iast hx hb hK hP hD hS 4 0 rfl rfl hin dX1_add_54 (fun H locs hP hD hS => ?_)
  have hP : va_P (dC, dI) vwCl [(cd, .inr (6, [.ref c0, .ref c1, .ref c2, .ref c3, .ref c4, .ref c5, .ref c6, .ref c7, .ref c8, .ref c9, .ref c10, .ref c11, .ref c12, .ref c13, .int d14, .int d15, .int d16, .int d17, .int d18, .int d19, .int d20, ctop])), (c0, .inl (cI, 512, .inl (upd u0 d15.toNatClampNeg p0))), (c1, .inl (cI, 512, .inl (upd u1 d15.toNatClampNeg p1))), (c2, .inl (cI, 512, .inl (upd u2 d15.toNatClampNeg p2))), (c3, .inl (cI, 512, .inl (upd u3 d15.toNatClampNeg p3))), (c4, .inl (cI, 512, .inl u4))] H := hP
  have hD : va_D A [(cd, .inr (6, [.ref c0, .ref c1, .ref c2, .ref c3, .ref c4, .ref c5, .ref c6, .ref c7, .ref c8, .ref c9, .ref c10, .ref c11, .ref c12, .ref c13, .int d14, .int d15, .int d16, .int d17, .int d18, .int d19, .int d20, ctop])), (c0, .inl (cI, 512, .inl (upd u0 d15.toNatClampNeg p0))), (c1, .inl (cI, 512, .inl (upd u1 d15.toNatClampNeg p1))), (c2, .inl (cI, 512, .inl (upd u2 d15.toNatClampNeg p2))), (c3, .inl (cI, 512, .inl (upd u3 d15.toNatClampNeg p3))), (c4, .inl (cI, 512, .inl u4))] := hD
  refine lv_aload_n hx hb dX1_add_55 rfl (lv_at hl 1 rfl) ?_
  refine va_get (D := (dC, dI)) (ci := 6) (v := .ref c4) (C := RX1) (T := TX1) (N := 22) hx hb hts (by decide +kernel) hown hK hP 0 rfl rfl 4 (by decide) (hts (.fieldLink RX1 24 "QueryHall$Code" "arg" "[I") (by decide +kernel)) (fun _ h9 => h9) rfl dX1_add_56 ?_
  refine lv_iload hx hb dX1_add_59 (lv_at hl 0 rfl) ?_
  refine lv_iload hx hb dX1_add_61 (lv_at hl 6 rfl) ?_
  refine va_iast hx hb hK hP hD hS 5 0 rfl rfl hin dX1_add_63 (fun H locs hP hD hS => ?_)
  have hP : va_P (dC, dI) vwCl [(cd, .inr (6, [.ref c0, .ref c1, .ref c2, .ref c3, .ref c4, .ref c5, .ref c6, .ref c7, .ref c8, .ref c9, .ref c10, .ref c11, .ref c12, .ref c13, .int d14, .int d15, .int d16, .int d17, .int d18, .int d19, .int d20, ctop])), (c0, .inl (cI, 512, .inl (upd u0 d15.toNatClampNeg p0))), (c1, .inl (cI, 512, .inl (upd u1 d15.toNatClampNeg p1))), (c2, .inl (cI, 512, .inl (upd u2 d15.toNatClampNeg p2))), (c3, .inl (cI, 512, .inl (upd u3 d15.toNatClampNeg p3))), (c4, .inl (cI, 512, .inl (upd u4 d15.toNatClampNeg p4)))] H := hP
  have hD : va_D A [(cd, .inr (6, [.ref c0, .ref c1, .ref c2, .ref c3, .ref c4, .ref c5, .ref c6, .ref c7, .ref c8, .ref c9, .ref c10, .ref c11, .ref c12, .ref c13, .int d14, .int d15, .int d16, .int d17, .int d18, .int d19, .int d20, ctop])), (c0, .inl (cI, 512, .inl (upd u0 d15.toNatClampNeg p0))), (c1, .inl (cI, 512, .inl (upd u1 d15.toNatClampNeg p1))), (c2, .inl (cI, 512, .inl (upd u2 d15.toNatClampNeg p2))), (c3, .inl (cI, 512, .inl (upd u3 d15.toNatClampNeg p3))), (c4, .inl (cI, 512, .inl (upd u4 d15.toNatClampNeg p4)))] := hD
  refine lv_aload_n hx hb dX1_add_64 rfl (lv_at hl 1 rfl) ?_
  refine lv_iload hx hb dX1_add_65 (lv_at hl 0 rfl) ?_
  refine lv_iconst (v := 1) hx hb dX1_add_67 (by decide) ?_
  refine lv_iadd hx hb dX1_add_68 ?_
  refine lv_topi (fun x_2 ex_2 => ?_)
  refine va_put (D := (dC, dI)) (ci := 6) (v := .int x_2) (ty := .int) (C := RX1) (T := TX1) (N := 22) hx hb hts (by decide +kernel) tyX1 tyX1_ok nmX1 hown hK hP hD hS 0 rfl rfl 15 (by decide) (hts (.fieldLink RX1 64 "QueryHall$Code" "count" "I") (by decide +kernel)) (fun _ h9 => h9) rfl (by decide +kernel) rfl rfl (Nat.le_of_ble_eq_true rfl) dX1_add_69 (fun H locs hP hD hS => ?_)
  have hP : va_P (dC, dI) vwCl [(cd, .inr (6, [.ref c0, .ref c1, .ref c2, .ref c3, .ref c4, .ref c5, .ref c6, .ref c7, .ref c8, .ref c9, .ref c10, .ref c11, .ref c12, .ref c13, .int d14, .int x_2, .int d16, .int d17, .int d18, .int d19, .int d20, ctop])), (c0, .inl (cI, 512, .inl (upd u0 d15.toNatClampNeg p0))), (c1, .inl (cI, 512, .inl (upd u1 d15.toNatClampNeg p1))), (c2, .inl (cI, 512, .inl (upd u2 d15.toNatClampNeg p2))), (c3, .inl (cI, 512, .inl (upd u3 d15.toNatClampNeg p3))), (c4, .inl (cI, 512, .inl (upd u4 d15.toNatClampNeg p4)))] H := hP
  have hD : va_D A [(cd, .inr (6, [.ref c0, .ref c1, .ref c2, .ref c3, .ref c4, .ref c5, .ref c6, .ref c7, .ref c8, .ref c9, .ref c10, .ref c11, .ref c12, .ref c13, .int d14, .int x_2, .int d16, .int d17, .int d18, .int d19, .int d20, ctop])), (c0, .inl (cI, 512, .inl (upd u0 d15.toNatClampNeg p0))), (c1, .inl (cI, 512, .inl (upd u1 d15.toNatClampNeg p1))), (c2, .inl (cI, 512, .inl (upd u2 d15.toNatClampNeg p2))), (c3, .inl (cI, 512, .inl (upd u3 d15.toNatClampNeg p3))), (c4, .inl (cI, 512, .inl (upd u4 d15.toNatClampNeg p4)))] := hD
  refine lv_iload hx hb dX1_add_72 (lv_at hl 0 rfl) ?_
  have hP9 := hP.sub (ws' := [(cd, .inr (6, [.ref c0, .ref c1, .ref c2, .ref c3, .ref c4, .ref c5, .ref c6, .ref c7, .ref c8, .ref c9, .ref c10, .ref c11, .ref c12, .ref c13, .int d14, .int x_2, .int d16, .int d17, .int d18, .int d19, .int d20, ctop])), (c0, .inl (cI, 512, .inl (upd u0 d15.toNatClampNeg p0))), (c1, .inl (cI, 512, .inl (upd u1 d15.toNatClampNeg p1))), (c2, .inl (cI, 512, .inl (upd u2 d15.toNatClampNeg p2))), (c3, .inl (cI, 512, .inl (upd u3 d15.toNatClampNeg p3))), (c4, .inl (cI, 512, .inl (upd u4 d15.toNatClampNeg p4)))]) [0, 1, 2, 3, 4, 5] rfl
  have hD9 := hD.sub (ws' := [(cd, .inr (6, [.ref c0, .ref c1, .ref c2, .ref c3, .ref c4, .ref c5, .ref c6, .ref c7, .ref c8, .ref c9, .ref c10, .ref c11, .ref c12, .ref c13, .int d14, .int x_2, .int d16, .int d17, .int d18, .int d19, .int d20, ctop])), (c0, .inl (cI, 512, .inl (upd u0 d15.toNatClampNeg p0))), (c1, .inl (cI, 512, .inl (upd u1 d15.toNatClampNeg p1))), (c2, .inl (cI, 512, .inl (upd u2 d15.toNatClampNeg p2))), (c3, .inl (cI, 512, .inl (upd u3 d15.toNatClampNeg p3))), (c4, .inl (cI, 512, .inl (upd u4 d15.toNatClampNeg p4)))]) [0, 1, 2, 3, 4, 5] (by decide) rfl
  have hK9 := hK.sub (tys' := [(cI, .int)]) [0] rfl
  have hw9 : ([(cd, .inr (6, [.ref c0, .ref c1, .ref c2, .ref c3, .ref c4, .ref c5, .ref c6, .ref c7, .ref c8, .ref c9, .ref c10, .ref c11, .ref c12, .ref c13, .int d14, .int x_2, .int d16, .int d17, .int d18, .int d19, .int d20, ctop])), (c0, .inl (cI, 512, .inl (upd u0 d15.toNatClampNeg p0))), (c1, .inl (cI, 512, .inl (upd u1 d15.toNatClampNeg p1))), (c2, .inl (cI, 512, .inl (upd u2 d15.toNatClampNeg p2))), (c3, .inl (cI, 512, .inl (upd u3 d15.toNatClampNeg p3))), (c4, .inl (cI, 512, .inl (upd u4 d15.toNatClampNeg p4)))] : va_W) = [(cd, .inr (6, [.ref c0, .ref c1, .ref c2, .ref c3, .ref c4, .ref c5, .ref c6, .ref c7, .ref c8, .ref c9, .ref c10, .ref c11, .ref c12, .ref c13, .int d14, .int (d15 + 1), .int d16, .int d17, .int d18, .int d19, .int d20, ctop])), (c0, .inl (cI, 512, .inl (upd u0 d15.toNatClampNeg p0))), (c1, .inl (cI, 512, .inl (upd u1 d15.toNatClampNeg p1))), (c2, .inl (cI, 512, .inl (upd u2 d15.toNatClampNeg p2))), (c3, .inl (cI, 512, .inl (upd u3 d15.toNatClampNeg p3))), (c4, .inl (cI, 512, .inl (upd u4 d15.toNatClampNeg p4)))] := by subst_vars; rfl
  rw [hw9] at hP9 hD9
  exact W.iret (v := d15) hx hb hr (fun t ht hW => ⟨⟨d15, (), rfl, (by subst_vars; rfl), by rw [ht]; exact hP9, va_K.moved hW.alike hK9, hD9⟩, hS.F ht⟩) hS.2.2 dX1_add_74
set_option maxHeartbeats 4000000 in
set_option maxRecDepth 100000 in
/-- Code.leftOf -/
theorem c_X1_leftOf (l : Launch) (dC : Nat → ClassId) (dI : Nat → Nat → Nat) (sz : Nat) (cd c0 c1 c2 c3 c4 c5 c6 c7 c8 c9 c10 c11 c12 c13 : Nat) (d14 d15 d16 d17 d18 d19 d20 : Int32) (ctop : Value) (cI : ClassId) (u3 : Nat → Int32) (p0 : Int32) (hin : 1 ≤ p0 → vp_in (p0 - 1) 512) : Met l yX1_leftOf wsX1_leftOf ({ frames := 0, cells := 0, slots := 0, locals := 0 }) (va_Pc [.ref cd, .int p0] (fun U => U.heap.size = sz ∧ va_P (dC, dI) vwCl [(cd, .inr (6, [.ref c0, .ref c1, .ref c2, .ref c3, .ref c4, .ref c5, .ref c6, .ref c7, .ref c8, .ref c9, .ref c10, .ref c11, .ref c12, .ref c13, .int d14, .int d15, .int d16, .int d17, .int d18, .int d19, .int d20, ctop])), (c3, .inl (cI, 512, .inl u3))] U.heap ∧ va_K (dC, dI) vwCl [(cI, .int)] U ∧ va_D (fun _ => True) [(cd, .inr (6, [.ref c0, .ref c1, .ref c2, .ref c3, .ref c4, .ref c5, .ref c6, .ref c7, .ref c8, .ref c9, .ref c10, .ref c11, .ref c12, .ref c13, .int d14, .int d15, .int d16, .int d17, .int d18, .int d19, .int d20, ctop])), (c3, .inl (cI, 512, .inl u3))])) (va_Qi (fun (r : Int32) (_ : Unit) => r = (if 1 ≤ p0 then u3 (p0 - 1).toNatClampNeg - 1 else -1)) (fun (_ : Unit) (t : State) => va_P (dC, dI) vwCl [(cd, .inr (6, [.ref c0, .ref c1, .ref c2, .ref c3, .ref c4, .ref c5, .ref c6, .ref c7, .ref c8, .ref c9, .ref c10, .ref c11, .ref c12, .ref c13, .int d14, .int d15, .int d16, .int d17, .int d18, .int d19, .int d20, ctop])), (c3, .inl (cI, 512, .inl u3))] t.heap ∧ va_K (dC, dI) vwCl [(cI, .int)] t ∧ va_D (va_A [(cd, .inr (6, [.ref c0, .ref c1, .ref c2, .ref c3, .ref c4, .ref c5, .ref c6, .ref c7, .ref c8, .ref c9, .ref c10, .ref c11, .ref c12, .ref c13, .int d14, .int d15, .int d16, .int d17, .int d18, .int d19, .int d20, ctop])), (c3, .inl (cI, 512, .inl u3))] sz) [(cd, .inr (6, [.ref c0, .ref c1, .ref c2, .ref c3, .ref c4, .ref c5, .ref c6, .ref c7, .ref c8, .ref c9, .ref c10, .ref c11, .ref c12, .ref c13, .int d14, .int d15, .int d16, .int d17, .int d18, .int d19, .int d20, ctop])), (c3, .inl (cI, 512, .inl u3))]) (va_A [(cd, .inr (6, [.ref c0, .ref c1, .ref c2, .ref c3, .ref c4, .ref c5, .ref c6, .ref c7, .ref c8, .ref c9, .ref c10, .ref c11, .ref c12, .ref c13, .int d14, .int d15, .int d16, .int d17, .int d18, .int d19, .int d20, ctop])), (c3, .inl (cI, 512, .inl u3))] sz)) 0 0 (va_A [(cd, .inr (6, [.ref c0, .ref c1, .ref c2, .ref c3, .ref c4, .ref c5, .ref c6, .ref c7, .ref c8, .ref c9, .ref c10, .ref c11, .ref c12, .ref c13, .int d14, .int d15, .int d16, .int d17, .int d18, .int d19, .int d20, ctop])), (c3, .inl (cI, 512, .inl u3))] sz) := by
  refine Met.ofW (cc := cX1_leftOf) (maxL := 2) (ret := (some .int)) (by decide) rfl ?_
  intro p e s m args below meth c s₁ B hml hv
  obtain ⟨rfl, hsz, hP, hK, hD0⟩ := hv
  have hx := B.exec
  have hb := B.bytes
  have hr := B.returns
  have hts := atoms_spec (ws := wsX1_leftOf) B.pre
  have hown : s.vm.findClass RX1 = some m.cls := findClass_of_methodNamed B.named
  have hlocks := B.notSynchronized
  subst hsz
  have hD := hD0.self (sz := s.heap.size)
  generalize hAe : va_A [(cd, .inr (6, [.ref c0, .ref c1, .ref c2, .ref c3, .ref c4, .ref c5, .ref c6, .ref c7, .ref c8, .ref c9, .ref c10, .ref c11, .ref c12, .ref c13, .int d14, .int d15, .int d16, .int d17, .int d18, .int d19, .int d20, ctop])), (c3, .inl (cI, 512, .inl u3))] s.heap.size = A at hD ⊢
  have hA : ∀ q : Nat, s.heap.size ≤ q → A q := fun q h => by rw [← hAe]; exact Or.inr h
  have hS : va_S A s.heap s.heap [] := va_S.rf
  have hP : va_P (dC, dI) vwCl [(cd, .inr (6, [.ref c0, .ref c1, .ref c2, .ref c3, .ref c4, .ref c5, .ref c6, .ref c7, .ref c8, .ref c9, .ref c10, .ref c11, .ref c12, .ref c13, .int d14, .int d15, .int d16, .int d17, .int d18, .int d19, .int d20, ctop])), (c3, .inl (cI, 512, .inl u3))] s.heap := hP
  have hl := lv_entry ([.ref cd, .int p0]) (n := 2) (Nat.le_of_ble_eq_true rfl)
  rw [lg_entry_eq]
  generalize (lg_sl ([.ref cd, .int p0]) ++ List.replicate (2 - (lg_sl ([.ref cd, .int p0])).length) Slot.unset).toArray = ls at hl ⊢
  have hl : lv_has ls 2 [(0, .ref cd), (1, .int p0)] := hl
  refine lv_iload_n hx hb dX1_leftOf_0 rfl (lv_at hl 1 rfl) ?_
  refine lv_iconst (v := 1) hx hb dX1_leftOf_1 (by decide) ?_
  refine lv_icmp_ge (tgt := 9) hx hb dX1_leftOf_2 (by decide) (fun c_1 => ?_) (fun c_1 => ?_)
  · skip
    refine lv_aload_n hx hb dX1_leftOf_9 rfl (lv_at hl 0 rfl) ?_
    refine va_get (D := (dC, dI)) (ci := 6) (v := .ref c3) (C := RX1) (T := TX1) (N := 22) hx hb hts (by decide +kernel) hown hK hP 0 rfl rfl 3 (by decide) (hts (.fieldLink RX1 21 "QueryHall$Code" "first" "[I") (by decide +kernel)) (fun _ h9 => h9) rfl dX1_leftOf_10 ?_
    refine lv_iload_n hx hb dX1_leftOf_13 rfl (lv_at hl 1 rfl) ?_
    refine lv_iconst (v := 1) hx hb dX1_leftOf_14 (by decide) ?_
    refine lv_isub hx hb dX1_leftOf_15 ?_
    refine va_iald hx hb hK hP 1 0 rfl rfl (hin (by assumption)) dX1_leftOf_16 ?_
    refine lv_iconst (v := 1) hx hb dX1_leftOf_17 (by decide) ?_
    refine lv_isub hx hb dX1_leftOf_18 ?_
    have hP9 := hP.sub (ws' := [(cd, .inr (6, [.ref c0, .ref c1, .ref c2, .ref c3, .ref c4, .ref c5, .ref c6, .ref c7, .ref c8, .ref c9, .ref c10, .ref c11, .ref c12, .ref c13, .int d14, .int d15, .int d16, .int d17, .int d18, .int d19, .int d20, ctop])), (c3, .inl (cI, 512, .inl u3))]) [0, 1] rfl
    have hD9 := hD.sub (ws' := [(cd, .inr (6, [.ref c0, .ref c1, .ref c2, .ref c3, .ref c4, .ref c5, .ref c6, .ref c7, .ref c8, .ref c9, .ref c10, .ref c11, .ref c12, .ref c13, .int d14, .int d15, .int d16, .int d17, .int d18, .int d19, .int d20, ctop])), (c3, .inl (cI, 512, .inl u3))]) [0, 1] (by decide) rfl
    have hK9 := hK.sub (tys' := [(cI, .int)]) [0] rfl
    exact W.iret (v := (u3 (p0 - 1).toNatClampNeg) - 1) hx hb hr (fun t ht hW => ⟨⟨(u3 (p0 - 1).toNatClampNeg) - 1, (), rfl, (by subst_vars; try (first | rw [if_pos c_1] | rw [if_neg c_1]); try rfl), by rw [ht]; exact hP9, va_K.moved hW.alike hK9, hD9⟩, hS.F ht⟩) hS.2.2 dX1_leftOf_19
  · skip
    refine lv_iconst (v := -1) hx hb dX1_leftOf_5 (by decide) ?_
    refine lv_goto (tgt := 19) hx hb dX1_leftOf_6 (by decide) ?_
    have hP9 := hP.sub (ws' := [(cd, .inr (6, [.ref c0, .ref c1, .ref c2, .ref c3, .ref c4, .ref c5, .ref c6, .ref c7, .ref c8, .ref c9, .ref c10, .ref c11, .ref c12, .ref c13, .int d14, .int d15, .int d16, .int d17, .int d18, .int d19, .int d20, ctop])), (c3, .inl (cI, 512, .inl u3))]) [0, 1] rfl
    have hD9 := hD.sub (ws' := [(cd, .inr (6, [.ref c0, .ref c1, .ref c2, .ref c3, .ref c4, .ref c5, .ref c6, .ref c7, .ref c8, .ref c9, .ref c10, .ref c11, .ref c12, .ref c13, .int d14, .int d15, .int d16, .int d17, .int d18, .int d19, .int d20, ctop])), (c3, .inl (cI, 512, .inl u3))]) [0, 1] (by decide) rfl
    have hK9 := hK.sub (tys' := [(cI, .int)]) [0] rfl
    exact W.iret (v := -1) hx hb hr (fun t ht hW => ⟨⟨-1, (), rfl, (by subst_vars; try (first | rw [if_pos c_1] | rw [if_neg c_1]); try rfl), by rw [ht]; exact hP9, va_K.moved hW.alike hK9, hD9⟩, hS.F ht⟩) hS.2.2 dX1_leftOf_19
set_option maxHeartbeats 4000000 in
set_option maxRecDepth 100000 in
/-- Code.addName: where there is room -/
theorem c_X1_addName (l : Launch) (dC : Nat → ClassId) (dI : Nat → Nat → Nat) (sz : Nat) (cd c0 c1 c2 c3 c4 c5 c6 c7 c8 c9 c10 c11 c12 c13 : Nat) (d14 d15 d16 d17 d18 d19 d20 : Int32) (ctop : Value) (cI cJ : ClassId) (un : Nat → Int64) (ua : Nat → Int32) (p0 : Int64) (p1 : Int32) (hlt : ¬ 6 < d16) (hin : vp_in d16 7) : Met l yX1_addName wsX1_addName ({ frames := 0, cells := 0, slots := 0, locals := 0 }) (va_Pc [.ref cd, .long p0, .int p1] (fun U => U.heap.size = sz ∧ va_P (dC, dI) vwCl [(cd, .inr (6, [.ref c0, .ref c1, .ref c2, .ref c3, .ref c4, .ref c5, .ref c6, .ref c7, .ref c8, .ref c9, .ref c10, .ref c11, .ref c12, .ref c13, .int d14, .int d15, .int d16, .int d17, .int d18, .int d19, .int d20, ctop])), (c6, .inl (cJ, 7, .inr (.inl un))), (c7, .inl (cI, 7, .inl ua))] U.heap ∧ va_K (dC, dI) vwCl [(cI, .int), (cJ, .long)] U ∧ va_D (fun _ => True) [(cd, .inr (6, [.ref c0, .ref c1, .ref c2, .ref c3, .ref c4, .ref c5, .ref c6, .ref c7, .ref c8, .ref c9, .ref c10, .ref c11, .ref c12, .ref c13, .int d14, .int d15, .int d16, .int d17, .int d18, .int d19, .int d20, ctop])), (c6, .inl (cJ, 7, .inr (.inl un))), (c7, .inl (cI, 7, .inl ua))])) (va_Qv (fun (_ : Unit) => True) (fun (_ : Unit) (t : State) => va_P (dC, dI) vwCl [(cd, .inr (6, [.ref c0, .ref c1, .ref c2, .ref c3, .ref c4, .ref c5, .ref c6, .ref c7, .ref c8, .ref c9, .ref c10, .ref c11, .ref c12, .ref c13, .int d14, .int d15, .int (d16 + 1), .int d17, .int d18, .int d19, .int d20, ctop])), (c6, .inl (cJ, 7, .inr (.inl (vp_updL un d16.toNatClampNeg p0)))), (c7, .inl (cI, 7, .inl (upd ua d16.toNatClampNeg p1)))] t.heap ∧ va_K (dC, dI) vwCl [(cI, .int), (cJ, .long)] t ∧ va_D (va_A [(cd, .inr (6, [.ref c0, .ref c1, .ref c2, .ref c3, .ref c4, .ref c5, .ref c6, .ref c7, .ref c8, .ref c9, .ref c10, .ref c11, .ref c12, .ref c13, .int d14, .int d15, .int d16, .int d17, .int d18, .int d19, .int d20, ctop])), (c6, .inl (cJ, 7, .inr (.inl un))), (c7, .inl (cI, 7, .inl ua))] sz) [(cd, .inr (6, [.ref c0, .ref c1, .ref c2, .ref c3, .ref c4, .ref c5, .ref c6, .ref c7, .ref c8, .ref c9, .ref c10, .ref c11, .ref c12, .ref c13, .int d14, .int d15, .int (d16 + 1), .int d17, .int d18, .int d19, .int d20, ctop])), (c6, .inl (cJ, 7, .inr (.inl (vp_updL un d16.toNatClampNeg p0)))), (c7, .inl (cI, 7, .inl (upd ua d16.toNatClampNeg p1)))]) (va_A [(cd, .inr (6, [.ref c0, .ref c1, .ref c2, .ref c3, .ref c4, .ref c5, .ref c6, .ref c7, .ref c8, .ref c9, .ref c10, .ref c11, .ref c12, .ref c13, .int d14, .int d15, .int d16, .int d17, .int d18, .int d19, .int d20, ctop])), (c6, .inl (cJ, 7, .inr (.inl un))), (c7, .inl (cI, 7, .inl ua))] sz)) 0 0 (va_A [(cd, .inr (6, [.ref c0, .ref c1, .ref c2, .ref c3, .ref c4, .ref c5, .ref c6, .ref c7, .ref c8, .ref c9, .ref c10, .ref c11, .ref c12, .ref c13, .int d14, .int d15, .int d16, .int d17, .int d18, .int d19, .int d20, ctop])), (c6, .inl (cJ, 7, .inr (.inl un))), (c7, .inl (cI, 7, .inl ua))] sz) := by
  refine Met.ofW (cc := cX1_addName) (maxL := 4) (ret := none) (by decide) rfl ?_
  intro p e s m args below meth c s₁ B hml hv
  obtain ⟨rfl, hsz, hP, hK, hD0⟩ := hv
  have hx := B.exec
  have hb := B.bytes
  have hr := B.returns
  have hts := atoms_spec (ws := wsX1_addName) B.pre
  have hown : s.vm.findClass RX1 = some m.cls := findClass_of_methodNamed B.named
  have hlocks := B.notSynchronized
  subst hsz
  have hD := hD0.self (sz := s.heap.size)
  generalize hAe : va_A [(cd, .inr (6, [.ref c0, .ref c1, .ref c2, .ref c3, .ref c4, .ref c5, .ref c6, .ref c7, .ref c8, .ref c9, .ref c10, .ref c11, .ref c12, .ref c13, .int d14, .int d15, .int d16, .int d17, .int d18, .int d19, .int d20, ctop])), (c6, .inl (cJ, 7, .inr (.inl un))), (c7, .inl (cI, 7, .inl ua))] s.heap.size = A at hD ⊢
  have hA : ∀ q : Nat, s.heap.size ≤ q → A q := fun q h => by rw [← hAe]; exact Or.inr h
  have hS : va_S A s.heap s.heap [] := va_S.rf
  have hP : va_P (dC, dI) vwCl [(cd, .inr (6, [.ref c0, .ref c1, .ref c2, .ref c3, .ref c4, .ref c5, .ref c6, .ref c7, .ref c8, .ref c9, .ref c10, .ref c11, .ref c12, .ref c13, .int d14, .int d15, .int d16, .int d17, .int d18, .int d19, .int d20, ctop])), (c6, .inl (cJ, 7, .inr (.inl un))), (c7, .inl (cI, 7, .inl ua))] s.heap := hP
  have hl := lv_entry ([.ref cd, .long p0, .int p1]) (n := 4) (Nat.le_of_ble_eq_true rfl)
  rw [lg_entry_eq]
  generalize (lg_sl ([.ref cd, .long p0, .int p1]) ++ List.replicate (4 - (lg_sl ([.ref cd, .long p0, .int p1])).length) Slot.unset).toArray = ls at hl ⊢
  have hl : lv_has ls 4 [(0, .ref cd), (1, .long p0), (3, .int p1)] := hl
  refine lv_aload_n hx hb dX1_addName_0 rfl (lv_at hl 0 rfl) ?_
  refine va_get (D := (dC, dI)) (ci := 6) (v := .int d16) (C := RX1) (T := TX1) (N := 22) hx hb hts (by decide +kernel) hown hK hP 0 rfl rfl 16 (by decide) (hts (.fieldLink RX1 67 "QueryHall$Code" "nameCount" "I") (by decide +kernel)) (fun _ h9 => h9) rfl dX1_addName_1 ?_
  refine lv_bipush (v := 6) hx hb dX1_addName_4 (by decide) ?_
  refine lv_icmp_gt (tgt := 39) hx hb dX1_addName_6 (by decide) (fun c_1 => absurd c_1 (hlt)) (fun c_1 => ?_)
  refine lv_aload_n hx hb dX1_addName_9 rfl (lv_at hl 0 rfl) ?_
  refine va_get (D := (dC, dI)) (ci := 6) (v := .ref c6) (C := RX1) (T := TX1) (N := 22) hx hb hts (by decide +kernel) hown hK hP 0 rfl rfl 6 (by decide) (hts (.fieldLink RX1 31 "QueryHall$Code" "names" "[J") (by decide +kernel)) (fun _ h9 => h9) rfl dX1_addName_10 ?_
  refine lv_aload_n hx hb dX1_addName_13 rfl (lv_at hl 0 rfl) ?_
  refine va_get (D := (dC, dI)) (ci := 6) (v := .int d16) (C := RX1) (T := TX1) (N := 22) hx hb hts (by decide +kernel) hown hK hP 0 rfl rfl 16 (by decide) (hts (.fieldLink RX1 67 "QueryHall$Code" "nameCount" "I") (by decide +kernel)) (fun _ h9 => h9) rfl dX1_addName_14 ?_
  refine lv_lload_n hx hb dX1_addName_17 rfl (lv_at hl 1 rfl) ?_
  refine va_last hx hb hK hP hD hS 1 1 rfl rfl hin dX1_addName_18 (fun H locs hP hD hS => ?_)
  have hP : va_P (dC, dI) vwCl [(cd, .inr (6, [.ref c0, .ref c1, .ref c2, .ref c3, .ref c4, .ref c5, .ref c6, .ref c7, .ref c8, .ref c9, .ref c10, .ref c11, .ref c12, .ref c13, .int d14, .int d15, .int d16, .int d17, .int d18, .int d19, .int d20, ctop])), (c6, .inl (cJ, 7, .inr (.inl (vp_updL un d16.toNatClampNeg p0)))), (c7, .inl (cI, 7, .inl ua))] H := hP
  have hD : va_D A [(cd, .inr (6, [.ref c0, .ref c1, .ref c2, .ref c3, .ref c4, .ref c5, .ref c6, .ref c7, .ref c8, .ref c9, .ref c10, .ref c11, .ref c12, .ref c13, .int d14, .int d15, .int d16, .int d17, .int d18, .int d19, .int d20, ctop])), (c6, .inl (cJ, 7, .inr (.inl (vp_updL un d16.toNatClampNeg p0)))), (c7, .inl (cI, 7, .inl ua))] := hD
  refine lv_aload_n hx hb dX1_addName_19 rfl (lv_at hl 0 rfl) ?_
  refine va_get (D := (dC, dI)) (ci := 6) (v := .ref c7) (C := RX1) (T := TX1) (N := 22) hx hb hts (by decide +kernel) hown hK hP 0 rfl rfl 7 (by decide) (hts (.fieldLink RX1 34 "QueryHall$Code" "nameAt" "[I") (by decide +kernel)) (fun _ h9 => h9) rfl dX1_addName_20 ?_
  refine lv_aload_n hx hb dX1_addName_23 rfl (lv_at hl 0 rfl) ?_
  refine va_get (D := (dC, dI)) (ci := 6) (v := .int d16) (C := RX1) (T := TX1) (N := 22) hx hb hts (by decide +kernel) hown hK hP 0 rfl rfl 16 (by decide) (hts (.fieldLink RX1 67 "QueryHall$Code" "nameCount" "I") (by decide +kernel)) (fun _ h9 => h9) rfl dX1_addName_24 ?_
  refine lv_iload_n hx hb dX1_addName_27 rfl (lv_at hl 2 rfl) ?_
  refine va_iast hx hb hK hP hD hS 2 0 rfl rfl hin dX1_addName_28 (fun H locs hP hD hS => ?_)
  have hP : va_P (dC, dI) vwCl [(cd, .inr (6, [.ref c0, .ref c1, .ref c2, .ref c3, .ref c4, .ref c5, .ref c6, .ref c7, .ref c8, .ref c9, .ref c10, .ref c11, .ref c12, .ref c13, .int d14, .int d15, .int d16, .int d17, .int d18, .int d19, .int d20, ctop])), (c6, .inl (cJ, 7, .inr (.inl (vp_updL un d16.toNatClampNeg p0)))), (c7, .inl (cI, 7, .inl (upd ua d16.toNatClampNeg p1)))] H := hP
  have hD : va_D A [(cd, .inr (6, [.ref c0, .ref c1, .ref c2, .ref c3, .ref c4, .ref c5, .ref c6, .ref c7, .ref c8, .ref c9, .ref c10, .ref c11, .ref c12, .ref c13, .int d14, .int d15, .int d16, .int d17, .int d18, .int d19, .int d20, ctop])), (c6, .inl (cJ, 7, .inr (.inl (vp_updL un d16.toNatClampNeg p0)))), (c7, .inl (cI, 7, .inl (upd ua d16.toNatClampNeg p1)))] := hD
  refine lv_aload_n hx hb dX1_addName_29 rfl (lv_at hl 0 rfl) ?_
  refine lv_dup hx hb dX1_addName_30 rfl ?_
  refine va_get (D := (dC, dI)) (ci := 6) (v := .int d16) (C := RX1) (T := TX1) (N := 22) hx hb hts (by decide +kernel) hown hK hP 0 rfl rfl 16 (by decide) (hts (.fieldLink RX1 67 "QueryHall$Code" "nameCount" "I") (by decide +kernel)) (fun _ h9 => h9) rfl dX1_addName_31 ?_
  refine lv_iconst (v := 1) hx hb dX1_addName_34 (by decide) ?_
  refine lv_iadd hx hb dX1_addName_35 ?_
  refine lv_topi (fun x_2 ex_2 => ?_)
  refine va_put (D := (dC, dI)) (ci := 6) (v := .int x_2) (ty := .int) (C := RX1) (T := TX1) (N := 22) hx hb hts (by decide +kernel) tyX1 tyX1_ok nmX1 hown hK hP hD hS 0 rfl rfl 16 (by decide) (hts (.fieldLink RX1 67 "QueryHall$Code" "nameCount" "I") (by decide +kernel)) (fun _ h9 => h9) rfl (by decide +kernel) rfl rfl (Nat.le_of_ble_eq_true rfl) dX1_addName_36 (fun H locs hP hD hS => ?_)
  have hP : va_P (dC, dI) vwCl [(cd, .inr (6, [.ref c0, .ref c1, .ref c2, .ref c3, .ref c4, .ref c5, .ref c6, .ref c7, .ref c8, .ref c9, .ref c10, .ref c11, .ref c12, .ref c13, .int d14, .int d15, .int x_2, .int d17, .int d18, .int d19, .int d20, ctop])), (c6, .inl (cJ, 7, .inr (.inl (vp_updL un d16.toNatClampNeg p0)))), (c7, .inl (cI, 7, .inl (upd ua d16.toNatClampNeg p1)))] H := hP
  have hD : va_D A [(cd, .inr (6, [.ref c0, .ref c1, .ref c2, .ref c3, .ref c4, .ref c5, .ref c6, .ref c7, .ref c8, .ref c9, .ref c10, .ref c11, .ref c12, .ref c13, .int d14, .int d15, .int x_2, .int d17, .int d18, .int d19, .int d20, ctop])), (c6, .inl (cJ, 7, .inr (.inl (vp_updL un d16.toNatClampNeg p0)))), (c7, .inl (cI, 7, .inl (upd ua d16.toNatClampNeg p1)))] := hD
  have hP9 := hP.sub (ws' := [(cd, .inr (6, [.ref c0, .ref c1, .ref c2, .ref c3, .ref c4, .ref c5, .ref c6, .ref c7, .ref c8, .ref c9, .ref c10, .ref c11, .ref c12, .ref c13, .int d14, .int d15, .int x_2, .int d17, .int d18, .int d19, .int d20, ctop])), (c6, .inl (cJ, 7, .inr (.inl (vp_updL un d16.toNatClampNeg p0)))), (c7, .inl (cI, 7, .inl (upd ua d16.toNatClampNeg p1)))]) [0, 1, 2] rfl
  have hD9 := hD.sub (ws' := [(cd, .inr (6, [.ref c0, .ref c1, .ref c2, .ref c3, .ref c4, .ref c5, .ref c6, .ref c7, .ref c8, .ref c9, .ref c10, .ref c11, .ref c12, .ref c13, .int d14, .int d15, .int x_2, .int d17, .int d18, .int d19, .int d20, ctop])), (c6, .inl (cJ, 7, .inr (.inl (vp_updL un d16.toNatClampNeg p0)))), (c7, .inl (cI, 7, .inl (upd ua d16.toNatClampNeg p1)))]) [0, 1, 2] (by decide) rfl
  have hK9 := hK.sub (tys' := [(cI, .int), (cJ, .long)]) [0, 1] rfl
  have hw9 : ([(cd, .inr (6, [.ref c0, .ref c1, .ref c2, .ref c3, .ref c4, .ref c5, .ref c6, .ref c7, .ref c8, .ref c9, .ref c10, .ref c11, .ref c12, .ref c13, .int d14, .int d15, .int x_2, .int d17, .int d18, .int d19, .int d20, ctop])), (c6, .inl (cJ, 7, .inr (.inl (vp_updL un d16.toNatClampNeg p0)))), (c7, .inl (cI, 7, .inl (upd ua d16.toNatClampNeg p1)))] : va_W) = [(cd, .inr (6, [.ref c0, .ref c1, .ref c2, .ref c3, .ref c4, .ref c5, .ref c6, .ref c7, .ref c8, .ref c9, .ref c10, .ref c11, .ref c12, .ref c13, .int d14, .int d15, .int (d16 + 1), .int d17, .int d18, .int d19, .int d20, ctop])), (c6, .inl (cJ, 7, .inr (.inl (vp_updL un d16.toNatClampNeg p0)))), (c7, .inl (cI, 7, .inl (upd ua d16.toNatClampNeg p1)))] := by subst_vars; rfl
  rw [hw9] at hP9 hD9
  exact W.vret hx hb hr (fun t ht hW => ⟨⟨(), rfl, trivial, by rw [ht]; exact hP9, va_K.moved hW.alike hK9, hD9⟩, hS.F ht⟩) hS.2.2 dX1_addName_39
set_option maxHeartbeats 4000000 in
set_option maxRecDepth 100000 in
/-- Code.addRoot: where there is room -/
theorem c_X1_addRoot (l : Launch) (dC : Nat → ClassId) (dI : Nat → Nat → Nat) (sz : Nat) (cd c0 c1 c2 c3 c4 c5 c6 c7 c8 c9 c10 c11 c12 c13 : Nat) (d14 d15 d16 d17 d18 d19 d20 : Int32) (ctop : Value) (cI : ClassId) (ur : Nat → Int32) (p0 : Int32) (hlt : ¬ 48 ≤ d17) (hin : vp_in d17 48) : Met l yX1_addRoot wsX1_addRoot ({ frames := 0, cells := 0, slots := 0, locals := 0 }) (va_Pc [.ref cd, .int p0] (fun U => U.heap.size = sz ∧ va_P (dC, dI) vwCl [(cd, .inr (6, [.ref c0, .ref c1, .ref c2, .ref c3, .ref c4, .ref c5, .ref c6, .ref c7, .ref c8, .ref c9, .ref c10, .ref c11, .ref c12, .ref c13, .int d14, .int d15, .int d16, .int d17, .int d18, .int d19, .int d20, ctop])), (c10, .inl (cI, 48, .inl ur))] U.heap ∧ va_K (dC, dI) vwCl [(cI, .int)] U ∧ va_D (fun _ => True) [(cd, .inr (6, [.ref c0, .ref c1, .ref c2, .ref c3, .ref c4, .ref c5, .ref c6, .ref c7, .ref c8, .ref c9, .ref c10, .ref c11, .ref c12, .ref c13, .int d14, .int d15, .int d16, .int d17, .int d18, .int d19, .int d20, ctop])), (c10, .inl (cI, 48, .inl ur))])) (va_Qv (fun (_ : Unit) => True) (fun (_ : Unit) (t : State) => va_P (dC, dI) vwCl [(cd, .inr (6, [.ref c0, .ref c1, .ref c2, .ref c3, .ref c4, .ref c5, .ref c6, .ref c7, .ref c8, .ref c9, .ref c10, .ref c11, .ref c12, .ref c13, .int d14, .int d15, .int d16, .int (d17 + 1), .int d18, .int d19, .int d20, ctop])), (c10, .inl (cI, 48, .inl (upd ur d17.toNatClampNeg p0)))] t.heap ∧ va_K (dC, dI) vwCl [(cI, .int)] t ∧ va_D (va_A [(cd, .inr (6, [.ref c0, .ref c1, .ref c2, .ref c3, .ref c4, .ref c5, .ref c6, .ref c7, .ref c8, .ref c9, .ref c10, .ref c11, .ref c12, .ref c13, .int d14, .int d15, .int d16, .int d17, .int d18, .int d19, .int d20, ctop])), (c10, .inl (cI, 48, .inl ur))] sz) [(cd, .inr (6, [.ref c0, .ref c1, .ref c2, .ref c3, .ref c4, .ref c5, .ref c6, .ref c7, .ref c8, .ref c9, .ref c10, .ref c11, .ref c12, .ref c13, .int d14, .int d15, .int d16, .int (d17 + 1), .int d18, .int d19, .int d20, ctop])), (c10, .inl (cI, 48, .inl (upd ur d17.toNatClampNeg p0)))]) (va_A [(cd, .inr (6, [.ref c0, .ref c1, .ref c2, .ref c3, .ref c4, .ref c5, .ref c6, .ref c7, .ref c8, .ref c9, .ref c10, .ref c11, .ref c12, .ref c13, .int d14, .int d15, .int d16, .int d17, .int d18, .int d19, .int d20, ctop])), (c10, .inl (cI, 48, .inl ur))] sz)) 0 0 (va_A [(cd, .inr (6, [.ref c0, .ref c1, .ref c2, .ref c3, .ref c4, .ref c5, .ref c6, .ref c7, .ref c8, .ref c9, .ref c10, .ref c11, .ref c12, .ref c13, .int d14, .int d15, .int d16, .int d17, .int d18, .int d19, .int d20, ctop])), (c10, .inl (cI, 48, .inl ur))] sz) := by
  refine Met.ofW (cc := cX1_addRoot) (maxL := 2) (ret := none) (by decide) rfl ?_
  intro p e s m args below meth c s₁ B hml hv
  obtain ⟨rfl, hsz, hP, hK, hD0⟩ := hv
  have hx := B.exec
  have hb := B.bytes
  have hr := B.returns
  have hts := atoms_spec (ws := wsX1_addRoot) B.pre
  have hown : s.vm.findClass RX1 = some m.cls := findClass_of_methodNamed B.named
  have hlocks := B.notSynchronized
  subst hsz
  have hD := hD0.self (sz := s.heap.size)
  generalize hAe : va_A [(cd, .inr (6, [.ref c0, .ref c1, .ref c2, .ref c3, .ref c4, .ref c5, .ref c6, .ref c7, .ref c8, .ref c9, .ref c10, .ref c11, .ref c12, .ref c13, .int d14, .int d15, .int d16, .int d17, .int d18, .int d19, .int d20, ctop])), (c10, .inl (cI, 48, .inl ur))] s.heap.size = A at hD ⊢
  have hA : ∀ q : Nat, s.heap.size ≤ q → A q := fun q h => by rw [← hAe]; exact Or.inr h
  have hS : va_S A s.heap s.heap [] := va_S.rf
  have hP : va_P (dC, dI) vwCl [(cd, .inr (6, [.ref c0, .ref c1, .ref c2, .ref c3, .ref c4, .ref c5, .ref c6, .ref c7, .ref c8, .ref c9, .ref c10, .ref c11, .ref c12, .ref c13, .int d14, .int d15, .int d16, .int d17, .int d18, .int d19, .int d20, ctop])), (c10, .inl (cI, 48, .inl ur))] s.heap := hP
  have hl := lv_entry ([.ref cd, .int p0]) (n := 2) (Nat.le_of_ble_eq_true rfl)
  rw [lg_entry_eq]
  generalize (lg_sl ([.ref cd, .int p0]) ++ List.replicate (2 - (lg_sl ([.ref cd, .int p0])).length) Slot.unset).toArray = ls at hl ⊢
  have hl : lv_has ls 2 [(0, .ref cd), (1, .int p0)] := hl
  refine lv_aload_n hx hb dX1_addRoot_0 rfl (lv_at hl 0 rfl) ?_
  refine va_get (D := (dC, dI)) (ci := 6) (v := .int d17) (C := RX1) (T := TX1) (N := 22) hx hb hts (by decide +kernel) hown hK hP 0 rfl rfl 17 (by decide) (hts (.fieldLink RX1 70 "QueryHall$Code" "rootCount" "I") (by decide +kernel)) (fun _ h9 => h9) rfl dX1_addRoot_1 ?_
  refine lv_aload_n hx hb dX1_addRoot_4 rfl (lv_at hl 0 rfl) ?_
  refine va_get (D := (dC, dI)) (ci := 6) (v := .ref c10) (C := RX1) (T := TX1) (N := 22) hx hb hts (by decide +kernel) hown hK hP 0 rfl rfl 10 (by decide) (hts (.fieldLink RX1 44 "QueryHall$Code" "roots" "[I") (by decide +kernel)) (fun _ h9 => h9) rfl dX1_addRoot_5 ?_
  refine va_alen (v := 48) hx hb hK hP 1 0 rfl rfl rfl dX1_addRoot_8 ?_
  refine lv_icmp_ge (tgt := 32) hx hb dX1_addRoot_9 (by decide) (fun c_1 => absurd c_1 (hlt)) (fun c_1 => ?_)
  refine lv_aload_n hx hb dX1_addRoot_12 rfl (lv_at hl 0 rfl) ?_
  refine va_get (D := (dC, dI)) (ci := 6) (v := .ref c10) (C := RX1) (T := TX1) (N := 22) hx hb hts (by decide +kernel) hown hK hP 0 rfl rfl 10 (by decide) (hts (.fieldLink RX1 44 "QueryHall$Code" "roots" "[I") (by decide +kernel)) (fun _ h9 => h9) rfl dX1_addRoot_13 ?_
  refine lv_aload_n hx hb dX1_addRoot_16 rfl (lv_at hl 0 rfl) ?_
  refine va_get (D := (dC, dI)) (ci := 6) (v := .int d17) (C := RX1) (T := TX1) (N := 22) hx hb hts (by decide +kernel) hown hK hP 0 rfl rfl 17 (by decide) (hts (.fieldLink RX1 70 "QueryHall$Code" "rootCount" "I") (by decide +kernel)) (fun _ h9 => h9) rfl dX1_addRoot_17 ?_
  refine lv_iload_n hx hb dX1_addRoot_20 rfl (lv_at hl 1 rfl) ?_
  refine va_iast hx hb hK hP hD hS 1 0 rfl rfl hin dX1_addRoot_21 (fun H locs hP hD hS => ?_)
  have hP : va_P (dC, dI) vwCl [(cd, .inr (6, [.ref c0, .ref c1, .ref c2, .ref c3, .ref c4, .ref c5, .ref c6, .ref c7, .ref c8, .ref c9, .ref c10, .ref c11, .ref c12, .ref c13, .int d14, .int d15, .int d16, .int d17, .int d18, .int d19, .int d20, ctop])), (c10, .inl (cI, 48, .inl (upd ur d17.toNatClampNeg p0)))] H := hP
  have hD : va_D A [(cd, .inr (6, [.ref c0, .ref c1, .ref c2, .ref c3, .ref c4, .ref c5, .ref c6, .ref c7, .ref c8, .ref c9, .ref c10, .ref c11, .ref c12, .ref c13, .int d14, .int d15, .int d16, .int d17, .int d18, .int d19, .int d20, ctop])), (c10, .inl (cI, 48, .inl (upd ur d17.toNatClampNeg p0)))] := hD
  refine lv_aload_n hx hb dX1_addRoot_22 rfl (lv_at hl 0 rfl) ?_
  refine lv_dup hx hb dX1_addRoot_23 rfl ?_
  refine va_get (D := (dC, dI)) (ci := 6) (v := .int d17) (C := RX1) (T := TX1) (N := 22) hx hb hts (by decide +kernel) hown hK hP 0 rfl rfl 17 (by decide) (hts (.fieldLink RX1 70 "QueryHall$Code" "rootCount" "I") (by decide +kernel)) (fun _ h9 => h9) rfl dX1_addRoot_24 ?_
  refine lv_iconst (v := 1) hx hb dX1_addRoot_27 (by decide) ?_
  refine lv_iadd hx hb dX1_addRoot_28 ?_
  refine lv_topi (fun x_2 ex_2 => ?_)
  refine va_put (D := (dC, dI)) (ci := 6) (v := .int x_2) (ty := .int) (C := RX1) (T := TX1) (N := 22) hx hb hts (by decide +kernel) tyX1 tyX1_ok nmX1 hown hK hP hD hS 0 rfl rfl 17 (by decide) (hts (.fieldLink RX1 70 "QueryHall$Code" "rootCount" "I") (by decide +kernel)) (fun _ h9 => h9) rfl (by decide +kernel) rfl rfl (Nat.le_of_ble_eq_true rfl) dX1_addRoot_29 (fun H locs hP hD hS => ?_)
  have hP : va_P (dC, dI) vwCl [(cd, .inr (6, [.ref c0, .ref c1, .ref c2, .ref c3, .ref c4, .ref c5, .ref c6, .ref c7, .ref c8, .ref c9, .ref c10, .ref c11, .ref c12, .ref c13, .int d14, .int d15, .int d16, .int x_2, .int d18, .int d19, .int d20, ctop])), (c10, .inl (cI, 48, .inl (upd ur d17.toNatClampNeg p0)))] H := hP
  have hD : va_D A [(cd, .inr (6, [.ref c0, .ref c1, .ref c2, .ref c3, .ref c4, .ref c5, .ref c6, .ref c7, .ref c8, .ref c9, .ref c10, .ref c11, .ref c12, .ref c13, .int d14, .int d15, .int d16, .int x_2, .int d18, .int d19, .int d20, ctop])), (c10, .inl (cI, 48, .inl (upd ur d17.toNatClampNeg p0)))] := hD
  have hP9 := hP.sub (ws' := [(cd, .inr (6, [.ref c0, .ref c1, .ref c2, .ref c3, .ref c4, .ref c5, .ref c6, .ref c7, .ref c8, .ref c9, .ref c10, .ref c11, .ref c12, .ref c13, .int d14, .int d15, .int d16, .int x_2, .int d18, .int d19, .int d20, ctop])), (c10, .inl (cI, 48, .inl (upd ur d17.toNatClampNeg p0)))]) [0, 1] rfl
  have hD9 := hD.sub (ws' := [(cd, .inr (6, [.ref c0, .ref c1, .ref c2, .ref c3, .ref c4, .ref c5, .ref c6, .ref c7, .ref c8, .ref c9, .ref c10, .ref c11, .ref c12, .ref c13, .int d14, .int d15, .int d16, .int x_2, .int d18, .int d19, .int d20, ctop])), (c10, .inl (cI, 48, .inl (upd ur d17.toNatClampNeg p0)))]) [0, 1] (by decide) rfl
  have hK9 := hK.sub (tys' := [(cI, .int)]) [0] rfl
  have hw9 : ([(cd, .inr (6, [.ref c0, .ref c1, .ref c2, .ref c3, .ref c4, .ref c5, .ref c6, .ref c7, .ref c8, .ref c9, .ref c10, .ref c11, .ref c12, .ref c13, .int d14, .int d15, .int d16, .int x_2, .int d18, .int d19, .int d20, ctop])), (c10, .inl (cI, 48, .inl (upd ur d17.toNatClampNeg p0)))] : va_W) = [(cd, .inr (6, [.ref c0, .ref c1, .ref c2, .ref c3, .ref c4, .ref c5, .ref c6, .ref c7, .ref c8, .ref c9, .ref c10, .ref c11, .ref c12, .ref c13, .int d14, .int d15, .int d16, .int (d17 + 1), .int d18, .int d19, .int d20, ctop])), (c10, .inl (cI, 48, .inl (upd ur d17.toNatClampNeg p0)))] := by subst_vars; rfl
  rw [hw9] at hP9 hD9
  exact W.vret hx hb hr (fun t ht hW => ⟨⟨(), rfl, trivial, by rw [ht]; exact hP9, va_K.moved hW.alike hK9, hD9⟩, hS.F ht⟩) hS.2.2 dX1_addRoot_32
set_option maxHeartbeats 4000000 in
set_option maxRecDepth 100000 in
/-- Parser.accept -/
theorem c_X6_accept (l : Launch) (dC : Nat → ClassId) (dI : Nat → Nat → Nat) (sz : Nat) (pa cd w0 w1 w2 w3 : Nat) (k4 k5 k8 k9 k10 : Int32) (kcur : Value) (cI : ClassId) (kk : Nat → Int32) (p0 : Int32) (hin : vp_in k5 401) : Met l yX6_accept wsX6_accept ({ frames := 0, cells := 0, slots := 0, locals := 0 }) (va_Pc [.ref pa, .int p0] (fun U => U.heap.size = sz ∧ va_P (dC, dI) vwCl [(pa, .inr (11, [.ref w0, .ref w1, .ref w2, .ref w3, .int k4, .int k5, .ref cd, kcur, .int k8, .int k9, .int k10])), (w1, .inl (cI, 401, .inl kk))] U.heap ∧ va_K (dC, dI) vwCl [(cI, .int)] U ∧ va_D (fun _ => True) [(pa, .inr (11, [.ref w0, .ref w1, .ref w2, .ref w3, .int k4, .int k5, .ref cd, kcur, .int k8, .int k9, .int k10])), (w1, .inl (cI, 401, .inl kk))])) (va_Qi (fun (r : Int32) (_ : Unit) => r = (if (kk k5.toNatClampNeg = p0) then 1 else 0)) (fun (_ : Unit) (t : State) => va_P (dC, dI) vwCl [(pa, .inr (11, [.ref w0, .ref w1, .ref w2, .ref w3, .int k4, .int (if (kk k5.toNatClampNeg = p0) then k5 + 1 else k5), .ref cd, kcur, .int k8, .int k9, .int k10])), (w1, .inl (cI, 401, .inl kk))] t.heap ∧ va_K (dC, dI) vwCl [(cI, .int)] t ∧ va_D (va_A [(pa, .inr (11, [.ref w0, .ref w1, .ref w2, .ref w3, .int k4, .int k5, .ref cd, kcur, .int k8, .int k9, .int k10])), (w1, .inl (cI, 401, .inl kk))] sz) [(pa, .inr (11, [.ref w0, .ref w1, .ref w2, .ref w3, .int k4, .int (if (kk k5.toNatClampNeg = p0) then k5 + 1 else k5), .ref cd, kcur, .int k8, .int k9, .int k10])), (w1, .inl (cI, 401, .inl kk))]) (va_A [(pa, .inr (11, [.ref w0, .ref w1, .ref w2, .ref w3, .int k4, .int k5, .ref cd, kcur, .int k8, .int k9, .int k10])), (w1, .inl (cI, 401, .inl kk))] sz)) 0 0 (va_A [(pa, .inr (11, [.ref w0, .ref w1, .ref w2, .ref w3, .int k4, .int k5, .ref cd, kcur, .int k8, .int k9, .int k10])), (w1, .inl (cI, 401, .inl kk))] sz) := by
  refine Met.ofW (cc := cX6_accept) (maxL := 2) (ret := (some .boolean)) (by decide) rfl ?_
  intro p e s m args below meth c s₁ B hml hv
  obtain ⟨rfl, hsz, hP, hK, hD0⟩ := hv
  have hx := B.exec
  have hb := B.bytes
  have hr := B.returns
  have hts := atoms_spec (ws := wsX6_accept) B.pre
  have hown : s.vm.findClass RX6 = some m.cls := findClass_of_methodNamed B.named
  have hlocks := B.notSynchronized
  subst hsz
  have hD := hD0.self (sz := s.heap.size)
  generalize hAe : va_A [(pa, .inr (11, [.ref w0, .ref w1, .ref w2, .ref w3, .int k4, .int k5, .ref cd, kcur, .int k8, .int k9, .int k10])), (w1, .inl (cI, 401, .inl kk))] s.heap.size = A at hD ⊢
  have hA : ∀ q : Nat, s.heap.size ≤ q → A q := fun q h => by rw [← hAe]; exact Or.inr h
  have hS : va_S A s.heap s.heap [] := va_S.rf
  have hP : va_P (dC, dI) vwCl [(pa, .inr (11, [.ref w0, .ref w1, .ref w2, .ref w3, .int k4, .int k5, .ref cd, kcur, .int k8, .int k9, .int k10])), (w1, .inl (cI, 401, .inl kk))] s.heap := hP
  have hl := lv_entry ([.ref pa, .int p0]) (n := 2) (Nat.le_of_ble_eq_true rfl)
  rw [lg_entry_eq]
  generalize (lg_sl ([.ref pa, .int p0]) ++ List.replicate (2 - (lg_sl ([.ref pa, .int p0])).length) Slot.unset).toArray = ls at hl ⊢
  have hl : lv_has ls 2 [(0, .ref pa), (1, .int p0)] := hl
  refine lv_aload_n hx hb dX6_accept_0 rfl (lv_at hl 0 rfl) ?_
  refine va_get (D := (dC, dI)) (ci := 11) (v := .ref w1) (C := RX6) (T := TX6) (N := 11) hx hb hts (by decide +kernel) hown hK hP 0 rfl rfl 1 (by decide) (hts (.fieldLink RX6 15 "QueryHall$Parser" "kinds" "[I") (by decide +kernel)) (fun _ h9 => h9) rfl dX6_accept_1 ?_
  refine lv_aload_n hx hb dX6_accept_4 rfl (lv_at hl 0 rfl) ?_
  refine va_get (D := (dC, dI)) (ci := 11) (v := .int k5) (C := RX6) (T := TX6) (N := 11) hx hb hts (by decide +kernel) hown hK hP 0 rfl rfl 5 (by decide) (hts (.fieldLink RX6 58 "QueryHall$Parser" "pos" "I") (by decide +kernel)) (fun _ h9 => h9) rfl dX6_accept_5 ?_
  refine va_iald hx hb hK hP 1 0 rfl rfl hin dX6_accept_8 ?_
  refine lv_iload_n hx hb dX6_accept_9 rfl (lv_at hl 1 rfl) ?_
  refine lv_icmp_eq (tgt := 15) hx hb dX6_accept_10 (by decide) (fun c_1 => ?_) (fun c_1 => ?_)
  · skip
    refine lv_aload_n hx hb dX6_accept_15 rfl (lv_at hl 0 rfl) ?_
    refine lv_dup hx hb dX6_accept_16 rfl ?_
    refine va_get (D := (dC, dI)) (ci := 11) (v := .int k5) (C := RX6) (T := TX6) (N := 11) hx hb hts (by decide +kernel) hown hK hP 0 rfl rfl 5 (by decide) (hts (.fieldLink RX6 58 "QueryHall$Parser" "pos" "I") (by decide +kernel)) (fun _ h9 => h9) rfl dX6_accept_17 ?_
    refine lv_iconst (v := 1) hx hb dX6_accept_20 (by decide) ?_
    refine lv_iadd hx hb dX6_accept_21 ?_
    refine lv_topi (fun x_2 ex_2 => ?_)
    refine va_put (D := (dC, dI)) (ci := 11) (v := .int x_2) (ty := .int) (C := RX6) (T := TX6) (N := 11) hx hb hts (by decide +kernel) tyX6 tyX6_ok nmX6 hown hK hP hD hS 0 rfl rfl 5 (by decide) (hts (.fieldLink RX6 58 "QueryHall$Parser" "pos" "I") (by decide +kernel)) (fun _ h9 => h9) rfl (by decide +kernel) rfl rfl (Nat.le_of_ble_eq_true rfl) dX6_accept_22 (fun H locs hP hD hS => ?_)
    have hP : va_P (dC, dI) vwCl [(pa, .inr (11, [.ref w0, .ref w1, .ref w2, .ref w3, .int k4, .int x_2, .ref cd, kcur, .int k8, .int k9, .int k10])), (w1, .inl (cI, 401, .inl kk))] H := hP
    have hD : va_D A [(pa, .inr (11, [.ref w0, .ref w1, .ref w2, .ref w3, .int k4, .int x_2, .ref cd, kcur, .int k8, .int k9, .int k10])), (w1, .inl (cI, 401, .inl kk))] := hD
    refine lv_iconst (v := 1) hx hb dX6_accept_25 (by decide) ?_
    have hP9 := hP.sub (ws' := [(pa, .inr (11, [.ref w0, .ref w1, .ref w2, .ref w3, .int k4, .int x_2, .ref cd, kcur, .int k8, .int k9, .int k10])), (w1, .inl (cI, 401, .inl kk))]) [0, 1] rfl
    have hD9 := hD.sub (ws' := [(pa, .inr (11, [.ref w0, .ref w1, .ref w2, .ref w3, .int k4, .int x_2, .ref cd, kcur, .int k8, .int k9, .int k10])), (w1, .inl (cI, 401, .inl kk))]) [0, 1] (by decide) rfl
    have hK9 := hK.sub (tys' := [(cI, .int)]) [0] rfl
    have hw9 : ([(pa, .inr (11, [.ref w0, .ref w1, .ref w2, .ref w3, .int k4, .int x_2, .ref cd, kcur, .int k8, .int k9, .int k10])), (w1, .inl (cI, 401, .inl kk))] : va_W) = [(pa, .inr (11, [.ref w0, .ref w1, .ref w2, .ref w3, .int k4, .int (if (kk k5.toNatClampNeg = p0) then k5 + 1 else k5), .ref cd, kcur, .int k8, .int k9, .int k10])), (w1, .inl (cI, 401, .inl kk))] := by rw [if_pos c_1, ex_2]
    rw [hw9] at hP9 hD9
    exact W.zret (v := 1) hx hb hr rfl (fun t ht hW => ⟨⟨1, (), rfl, (by first | rw [if_pos c_1] | rw [if_neg c_1]), by rw [ht]; exact hP9, va_K.moved hW.alike hK9, hD9⟩, hS.F ht⟩) hS.2.2 dX6_accept_26
  · skip
    refine lv_iconst (v := 0) hx hb dX6_accept_13 (by decide) ?_
    have hP9 := hP.sub (ws' := [(pa, .inr (11, [.ref w0, .ref w1, .ref w2, .ref w3, .int k4, .int k5, .ref cd, kcur, .int k8, .int k9, .int k10])), (w1, .inl (cI, 401, .inl kk))]) [0, 1] rfl
    have hD9 := hD.sub (ws' := [(pa, .inr (11, [.ref w0, .ref w1, .ref w2, .ref w3, .int k4, .int k5, .ref cd, kcur, .int k8, .int k9, .int k10])), (w1, .inl (cI, 401, .inl kk))]) [0, 1] (by decide) rfl
    have hK9 := hK.sub (tys' := [(cI, .int)]) [0] rfl
    have hw9 : ([(pa, .inr (11, [.ref w0, .ref w1, .ref w2, .ref w3, .int k4, .int k5, .ref cd, kcur, .int k8, .int k9, .int k10])), (w1, .inl (cI, 401, .inl kk))] : va_W) = [(pa, .inr (11, [.ref w0, .ref w1, .ref w2, .ref w3, .int k4, .int (if (kk k5.toNatClampNeg = p0) then k5 + 1 else k5), .ref cd, kcur, .int k8, .int k9, .int k10])), (w1, .inl (cI, 401, .inl kk))] := by rw [if_neg c_1]
    rw [hw9] at hP9 hD9
    exact W.zret (v := 0) hx hb hr rfl (fun t ht hW => ⟨⟨0, (), rfl, (by first | rw [if_pos c_1] | rw [if_neg c_1]), by rw [ht]; exact hP9, va_K.moved hW.alike hK9, hD9⟩, hS.F ht⟩) hS.2.2 dX6_accept_14
set_option maxHeartbeats 4000000 in
set_option maxRecDepth 100000 in
/-- Parser.setValue -/
theorem c_X6_setValue (l : Launch) (dC : Nat → ClassId) (dI : Nat → Nat → Nat) (sz : Nat) (pa cd w0 w1 w2 w3 : Nat) (k4 k5 k8 k9 k10 : Int32) (kcur : Value) (cJ : ClassId) (vv : Nat → Int64) (p0 : Int32) (p1 p2 : Int64) (hin : vp_in (k4 * 3) 1203 ∧ vp_in (k4 * 3 + 1) 1203 ∧ vp_in (k4 * 3 + 2) 1203) : Met l yX6_setValue wsX6_setValue ({ frames := 0, cells := 0, slots := 0, locals := 0 }) (va_Pc [.ref pa, .int p0, .long p1, .long p2] (fun U => U.heap.size = sz ∧ va_P (dC, dI) vwCl [(pa, .inr (11, [.ref w0, .ref w1, .ref w2, .ref w3, .int k4, .int k5, .ref cd, kcur, .int k8, .int k9, .int k10])), (w3, .inl (cJ, 1203, .inr (.inl vv)))] U.heap ∧ va_K (dC, dI) vwCl [(cJ, .long)] U ∧ va_D (fun _ => True) [(pa, .inr (11, [.ref w0, .ref w1, .ref w2, .ref w3, .int k4, .int k5, .ref cd, kcur, .int k8, .int k9, .int k10])), (w3, .inl (cJ, 1203, .inr (.inl vv)))])) (va_Qv (fun (_ : Unit) => True) (fun (_ : Unit) (t : State) => va_P (dC, dI) vwCl [(pa, .inr (11, [.ref w0, .ref w1, .ref w2, .ref w3, .int k4, .int k5, .ref cd, kcur, .int k8, .int k9, .int k10])), (w3, .inl (cJ, 1203, .inr (.inl (vp_updL (vp_updL (vp_updL vv (k4 * 3).toNatClampNeg p0.toInt64) ((k4 * 3) + 1).toNatClampNeg p1) ((k4 * 3) + 2).toNatClampNeg p2))))] t.heap ∧ va_K (dC, dI) vwCl [(cJ, .long)] t ∧ va_D (va_A [(pa, .inr (11, [.ref w0, .ref w1, .ref w2, .ref w3, .int k4, .int k5, .ref cd, kcur, .int k8, .int k9, .int k10])), (w3, .inl (cJ, 1203, .inr (.inl vv)))] sz) [(pa, .inr (11, [.ref w0, .ref w1, .ref w2, .ref w3, .int k4, .int k5, .ref cd, kcur, .int k8, .int k9, .int k10])), (w3, .inl (cJ, 1203, .inr (.inl (vp_updL (vp_updL (vp_updL vv (k4 * 3).toNatClampNeg p0.toInt64) ((k4 * 3) + 1).toNatClampNeg p1) ((k4 * 3) + 2).toNatClampNeg p2))))]) (va_A [(pa, .inr (11, [.ref w0, .ref w1, .ref w2, .ref w3, .int k4, .int k5, .ref cd, kcur, .int k8, .int k9, .int k10])), (w3, .inl (cJ, 1203, .inr (.inl vv)))] sz)) 0 0 (va_A [(pa, .inr (11, [.ref w0, .ref w1, .ref w2, .ref w3, .int k4, .int k5, .ref cd, kcur, .int k8, .int k9, .int k10])), (w3, .inl (cJ, 1203, .inr (.inl vv)))] sz) := by
  refine Met.ofW (cc := cX6_setValue) (maxL := 6) (ret := none) (by decide) rfl ?_
  intro p e s m args below meth c s₁ B hml hv
  obtain ⟨rfl, hsz, hP, hK, hD0⟩ := hv
  have hx := B.exec
  have hb := B.bytes
  have hr := B.returns
  have hts := atoms_spec (ws := wsX6_setValue) B.pre
  have hown : s.vm.findClass RX6 = some m.cls := findClass_of_methodNamed B.named
  have hlocks := B.notSynchronized
  subst hsz
  have hD := hD0.self (sz := s.heap.size)
  generalize hAe : va_A [(pa, .inr (11, [.ref w0, .ref w1, .ref w2, .ref w3, .int k4, .int k5, .ref cd, kcur, .int k8, .int k9, .int k10])), (w3, .inl (cJ, 1203, .inr (.inl vv)))] s.heap.size = A at hD ⊢
  have hA : ∀ q : Nat, s.heap.size ≤ q → A q := fun q h => by rw [← hAe]; exact Or.inr h
  have hS : va_S A s.heap s.heap [] := va_S.rf
  have hP : va_P (dC, dI) vwCl [(pa, .inr (11, [.ref w0, .ref w1, .ref w2, .ref w3, .int k4, .int k5, .ref cd, kcur, .int k8, .int k9, .int k10])), (w3, .inl (cJ, 1203, .inr (.inl vv)))] s.heap := hP
  have hl := lv_entry ([.ref pa, .int p0, .long p1, .long p2]) (n := 6) (Nat.le_of_ble_eq_true rfl)
  rw [lg_entry_eq]
  generalize (lg_sl ([.ref pa, .int p0, .long p1, .long p2]) ++ List.replicate (6 - (lg_sl ([.ref pa, .int p0, .long p1, .long p2])).length) Slot.unset).toArray = ls at hl ⊢
  have hl : lv_has ls 6 [(0, .ref pa), (1, .int p0), (2, .long p1), (4, .long p2)] := hl
  refine lv_aload_n hx hb dX6_setValue_0 rfl (lv_at hl 0 rfl) ?_
  refine va_get (D := (dC, dI)) (ci := 11) (v := .ref w3) (C := RX6) (T := TX6) (N := 11) hx hb hts (by decide +kernel) hown hK hP 0 rfl rfl 3 (by decide) (hts (.fieldLink RX6 22 "QueryHall$Parser" "values" "[J") (by decide +kernel)) (fun _ h9 => h9) rfl dX6_setValue_1 ?_
  refine lv_aload_n hx hb dX6_setValue_4 rfl (lv_at hl 0 rfl) ?_
  refine va_get (D := (dC, dI)) (ci := 11) (v := .int k4) (C := RX6) (T := TX6) (N := 11) hx hb hts (by decide +kernel) hown hK hP 0 rfl rfl 4 (by decide) (hts (.fieldLink RX6 77 "QueryHall$Parser" "tokens" "I") (by decide +kernel)) (fun _ h9 => h9) rfl dX6_setValue_5 ?_
  refine lv_iconst (v := 3) hx hb dX6_setValue_8 (by decide) ?_
  refine lv_imul hx hb dX6_setValue_9 ?_
  refine lv_iload_n hx hb dX6_setValue_10 rfl (lv_at hl 1 rfl) ?_
  refine lv_i2l hx hb dX6_setValue_11 rfl ?_
  refine va_last hx hb hK hP hD hS 1 0 rfl rfl hin.1 dX6_setValue_12 (fun H locs hP hD hS => ?_)
  have hP : va_P (dC, dI) vwCl [(pa, .inr (11, [.ref w0, .ref w1, .ref w2, .ref w3, .int k4, .int k5, .ref cd, kcur, .int k8, .int k9, .int k10])), (w3, .inl (cJ, 1203, .inr (.inl (vp_updL vv (k4 * 3).toNatClampNeg p0.toInt64))))] H := hP
  have hD : va_D A [(pa, .inr (11, [.ref w0, .ref w1, .ref w2, .ref w3, .int k4, .int k5, .ref cd, kcur, .int k8, .int k9, .int k10])), (w3, .inl (cJ, 1203, .inr (.inl (vp_updL vv (k4 * 3).toNatClampNeg p0.toInt64))))] := hD
  refine lv_aload_n hx hb dX6_setValue_13 rfl (lv_at hl 0 rfl) ?_
  refine va_get (D := (dC, dI)) (ci := 11) (v := .ref w3) (C := RX6) (T := TX6) (N := 11) hx hb hts (by decide +kernel) hown hK hP 0 rfl rfl 3 (by decide) (hts (.fieldLink RX6 22 "QueryHall$Parser" "values" "[J") (by decide +kernel)) (fun _ h9 => h9) rfl dX6_setValue_14 ?_
  refine lv_aload_n hx hb dX6_setValue_17 rfl (lv_at hl 0 rfl) ?_
  refine va_get (D := (dC, dI)) (ci := 11) (v := .int k4) (C := RX6) (T := TX6) (N := 11) hx hb hts (by decide +kernel) hown hK hP 0 rfl rfl 4 (by decide) (hts (.fieldLink RX6 77 "QueryHall$Parser" "tokens" "I") (by decide +kernel)) (fun _ h9 => h9) rfl dX6_setValue_18 ?_
  refine lv_iconst (v := 3) hx hb dX6_setValue_21 (by decide) ?_
  refine lv_imul hx hb dX6_setValue_22 ?_
  refine lv_iconst (v := 1) hx hb dX6_setValue_23 (by decide) ?_
  refine lv_iadd hx hb dX6_setValue_24 ?_
  refine lv_lload_n hx hb dX6_setValue_25 rfl (lv_at hl 2 rfl) ?_
  refine va_last hx hb hK hP hD hS 1 0 rfl rfl hin.2.1 dX6_setValue_26 (fun H locs hP hD hS => ?_)
  have hP : va_P (dC, dI) vwCl [(pa, .inr (11, [.ref w0, .ref w1, .ref w2, .ref w3, .int k4, .int k5, .ref cd, kcur, .int k8, .int k9, .int k10])), (w3, .inl (cJ, 1203, .inr (.inl (vp_updL (vp_updL vv (k4 * 3).toNatClampNeg p0.toInt64) ((k4 * 3) + 1).toNatClampNeg p1))))] H := hP
  have hD : va_D A [(pa, .inr (11, [.ref w0, .ref w1, .ref w2, .ref w3, .int k4, .int k5, .ref cd, kcur, .int k8, .int k9, .int k10])), (w3, .inl (cJ, 1203, .inr (.inl (vp_updL (vp_updL vv (k4 * 3).toNatClampNeg p0.toInt64) ((k4 * 3) + 1).toNatClampNeg p1))))] := hD
  refine lv_aload_n hx hb dX6_setValue_27 rfl (lv_at hl 0 rfl) ?_
  refine va_get (D := (dC, dI)) (ci := 11) (v := .ref w3) (C := RX6) (T := TX6) (N := 11) hx hb hts (by decide +kernel) hown hK hP 0 rfl rfl 3 (by decide) (hts (.fieldLink RX6 22 "QueryHall$Parser" "values" "[J") (by decide +kernel)) (fun _ h9 => h9) rfl dX6_setValue_28 ?_
  refine lv_aload_n hx hb dX6_setValue_31 rfl (lv_at hl 0 rfl) ?_
  refine va_get (D := (dC, dI)) (ci := 11) (v := .int k4) (C := RX6) (T := TX6) (N := 11) hx hb hts (by decide +kernel) hown hK hP 0 rfl rfl 4 (by decide) (hts (.fieldLink RX6 77 "QueryHall$Parser" "tokens" "I") (by decide +kernel)) (fun _ h9 => h9) rfl dX6_setValue_32 ?_
  refine lv_iconst (v := 3) hx hb dX6_setValue_35 (by decide) ?_
  refine lv_imul hx hb dX6_setValue_36 ?_
  refine lv_iconst (v := 2) hx hb dX6_setValue_37 (by decide) ?_
  refine lv_iadd hx hb dX6_setValue_38 ?_
  refine lv_lload hx hb dX6_setValue_39 (lv_at hl 3 rfl) ?_
  refine va_last hx hb hK hP hD hS 1 0 rfl rfl hin.2.2 dX6_setValue_41 (fun H locs hP hD hS => ?_)
  have hP : va_P (dC, dI) vwCl [(pa, .inr (11, [.ref w0, .ref w1, .ref w2, .ref w3, .int k4, .int k5, .ref cd, kcur, .int k8, .int k9, .int k10])), (w3, .inl (cJ, 1203, .inr (.inl (vp_updL (vp_updL (vp_updL vv (k4 * 3).toNatClampNeg p0.toInt64) ((k4 * 3) + 1).toNatClampNeg p1) ((k4 * 3) + 2).toNatClampNeg p2))))] H := hP
  have hD : va_D A [(pa, .inr (11, [.ref w0, .ref w1, .ref w2, .ref w3, .int k4, .int k5, .ref cd, kcur, .int k8, .int k9, .int k10])), (w3, .inl (cJ, 1203, .inr (.inl (vp_updL (vp_updL (vp_updL vv (k4 * 3).toNatClampNeg p0.toInt64) ((k4 * 3) + 1).toNatClampNeg p1) ((k4 * 3) + 2).toNatClampNeg p2))))] := hD
  have hP9 := hP.sub (ws' := [(pa, .inr (11, [.ref w0, .ref w1, .ref w2, .ref w3, .int k4, .int k5, .ref cd, kcur, .int k8, .int k9, .int k10])), (w3, .inl (cJ, 1203, .inr (.inl (vp_updL (vp_updL (vp_updL vv (k4 * 3).toNatClampNeg p0.toInt64) ((k4 * 3) + 1).toNatClampNeg p1) ((k4 * 3) + 2).toNatClampNeg p2))))]) [0, 1] rfl
  have hD9 := hD.sub (ws' := [(pa, .inr (11, [.ref w0, .ref w1, .ref w2, .ref w3, .int k4, .int k5, .ref cd, kcur, .int k8, .int k9, .int k10])), (w3, .inl (cJ, 1203, .inr (.inl (vp_updL (vp_updL (vp_updL vv (k4 * 3).toNatClampNeg p0.toInt64) ((k4 * 3) + 1).toNatClampNeg p1) ((k4 * 3) + 2).toNatClampNeg p2))))]) [0, 1] (by decide) rfl
  have hK9 := hK.sub (tys' := [(cJ, .long)]) [0] rfl
  exact W.vret hx hb hr (fun t ht hW => ⟨⟨(), rfl, trivial, by rw [ht]; exact hP9, va_K.moved hW.alike hK9, hD9⟩, hS.F ht⟩) hS.2.2 dX6_setValue_42
