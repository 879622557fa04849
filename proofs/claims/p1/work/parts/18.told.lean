abbrev cX4_waiters : ByteArray := prog_6_method_6_code
def yX4_waiters : MethodName := ⟨RX4, "waiters", "()I"⟩
abbrev cX12_number : ByteArray := prog_1_method_9_code
def yX12_number : MethodName := ⟨RX12, "number", "(III)J"⟩
abbrev cX12_letter : ByteArray := prog_1_method_10_code
def yX12_letter : MethodName := ⟨RX12, "letter", "(IIII)I"⟩
abbrev cX12_told : ByteArray := prog_1_method_21_code
def yX12_told : MethodName := ⟨RX12, "told", "(I)I"⟩
def wsX4_waiters : List Cond := .code yX4_waiters cX4_waiters 3 (some .int) :: ([.fieldLink RX4 23 "QueryHall$Locks" "waitsAt" "[LQueryHall$Place;"] ++ wsX40)
def wsX12_number : List Cond := .code yX12_number cX12_number 6 (some .long) :: ([.fieldLink RX12 11 "QueryHall" "sessions" "[LQueryHall$Session;", .fieldLink RX12 183 "QueryHall$Session" "cells" "[J", .constantLong RX12 186 (3), .methodLink RX12 179 yX12_cellOf, .instanceMethod yX12_cellOf, .selects RX12 yX12_cellOf yX12_cellOf, .initialized RX12, .code yX12_cellOf cX12_cellOf 5 (some .int), .classLink RX12 282 "java/lang/IndexOutOfBoundsException", .initialized "java/lang/IndexOutOfBoundsException", .fieldLink RX12 173 "QueryHall$Session" "rows" "I", .fieldLink RX12 176 "QueryHall$Session" "columns" "I", .methodLink RX12 83 yX12_needSession, .static yX12_needSession, .code yX12_needSession cX12_needSession 1 none, .methodLink RX12 188 yX11_lettersOf, .static yX11_lettersOf, .initialized RX11, .code yX11_lettersOf cX11_lettersOf 3 (some .int), .methodLink RX11 77 yX11_letterOf, .static yX11_letterOf, .code yX11_letterOf cX11_letterOf 5 (some .int), .constantLong RX11 75 (255)] ++ wsX120 ++ wsX100 ++ (vx_atM "java/lang/ArrayIndexOutOfBoundsException" ["java/lang/IndexOutOfBoundsException", "java/lang/RuntimeException", "java/lang/Exception"]).filter goodWord ++ (vx_atS RX12 286 "java/lang/IndexOutOfBoundsException" ["java/lang/RuntimeException", "java/lang/Exception"]).filter goodWord)
def wsX12_letter : List Cond := .code yX12_letter cX12_letter 7 (some .int) :: ([.fieldLink RX12 11 "QueryHall" "sessions" "[LQueryHall$Session;", .fieldLink RX12 183 "QueryHall$Session" "cells" "[J", .constantLong RX12 186 (3), .methodLink RX12 179 yX12_cellOf, .instanceMethod yX12_cellOf, .selects RX12 yX12_cellOf yX12_cellOf, .initialized RX12, .code yX12_cellOf cX12_cellOf 5 (some .int), .classLink RX12 282 "java/lang/IndexOutOfBoundsException", .initialized "java/lang/IndexOutOfBoundsException", .fieldLink RX12 173 "QueryHall$Session" "rows" "I", .fieldLink RX12 176 "QueryHall$Session" "columns" "I", .methodLink RX12 83 yX12_needSession, .static yX12_needSession, .code yX12_needSession cX12_needSession 1 none, .methodLink RX12 192 yX11_letterOf, .static yX11_letterOf, .initialized RX11, .code yX11_letterOf cX11_letterOf 5 (some .int), .constantLong RX11 75 (255)] ++ wsX120 ++ wsX100 ++ (vx_atM "java/lang/ArrayIndexOutOfBoundsException" ["java/lang/IndexOutOfBoundsException", "java/lang/RuntimeException", "java/lang/Exception"]).filter goodWord ++ (vx_atS RX12 286 "java/lang/IndexOutOfBoundsException" ["java/lang/RuntimeException", "java/lang/Exception"]).filter goodWord)
def wsX12_told : List Cond := .code yX12_told cX12_told 2 (some .int) :: ([.fieldLink RX12 307 "QueryHall" "tableCount" "I", .fieldLink RX12 310 "QueryHall" "indexCount" "I", .fieldLink RX12 79 "QueryHall" "journal" "LQueryHall$Log;", .fieldLink RX12 241 "QueryHall$Log" "last" "I", .fieldLink RX12 253 "QueryHall$Log" "first" "I", .fieldLink RX12 299 "QueryHall$Log" "durable" "I", .fieldLink RX12 56 "QueryHall" "up" "Z", .fieldLink RX12 52 "QueryHall" "nextTransaction" "I", .fieldLink RX12 39 "QueryHall" "locks" "LQueryHall$Locks;", .methodLink RX12 313 yX4_waiters, .instanceMethod yX4_waiters, .selects RX4 yX4_waiters yX4_waiters, .initialized RX4, .code yX4_waiters cX4_waiters 3 (some .int), .fieldLink RX4 23 "QueryHall$Locks" "waitsAt" "[LQueryHall$Place;"] ++ wsX120 ++ wsX50 ++ wsX40)
theorem dX4_waiters_0 : decode cX4_waiters 0 = .ok (.iconst 0, 1) := by decide +kernel
theorem dX4_waiters_1 : decode cX4_waiters 1 = .ok (.istore_n 1, 1) := by decide +kernel
theorem dX4_waiters_2 : decode cX4_waiters 2 = .ok (.iconst 0, 1) := by decide +kernel
theorem dX4_waiters_3 : decode cX4_waiters 3 = .ok (.istore_n 2, 1) := by decide +kernel
theorem dX4_waiters_4 : decode cX4_waiters 4 = .ok (.iload_n 2, 1) := by decide +kernel
theorem dX4_waiters_5 : decode cX4_waiters 5 = .ok (.iconst 4, 1) := by decide +kernel
theorem dX4_waiters_6 : decode cX4_waiters 6 = .ok (.if_icmp .ge 26, 3) := by decide +kernel
theorem dX4_waiters_9 : decode cX4_waiters 9 = .ok (.iload_n 1, 1) := by decide +kernel
theorem dX4_waiters_10 : decode cX4_waiters 10 = .ok (.aload_n 0, 1) := by decide +kernel
theorem dX4_waiters_11 : decode cX4_waiters 11 = .ok (.getfield 23, 3) := by decide +kernel
theorem dX4_waiters_14 : decode cX4_waiters 14 = .ok (.iload_n 2, 1) := by decide +kernel
theorem dX4_waiters_15 : decode cX4_waiters 15 = .ok (.aaload, 1) := by decide +kernel
theorem dX4_waiters_16 : decode cX4_waiters 16 = .ok (.ifnonnull 7, 3) := by decide +kernel
theorem dX4_waiters_19 : decode cX4_waiters 19 = .ok (.iconst 0, 1) := by decide +kernel
theorem dX4_waiters_20 : decode cX4_waiters 20 = .ok (.goto 4, 3) := by decide +kernel
theorem dX4_waiters_23 : decode cX4_waiters 23 = .ok (.iconst 1, 1) := by decide +kernel
theorem dX4_waiters_24 : decode cX4_waiters 24 = .ok (.iadd, 1) := by decide +kernel
theorem dX4_waiters_25 : decode cX4_waiters 25 = .ok (.istore_n 1, 1) := by decide +kernel
theorem dX4_waiters_26 : decode cX4_waiters 26 = .ok (.iinc 2 1, 3) := by decide +kernel
theorem dX4_waiters_29 : decode cX4_waiters 29 = .ok (.goto (-25), 3) := by decide +kernel
theorem dX4_waiters_32 : decode cX4_waiters 32 = .ok (.iload_n 1, 1) := by decide +kernel
theorem dX4_waiters_33 : decode cX4_waiters 33 = .ok (.ireturn, 1) := by decide +kernel
set_option maxRecDepth 20000 in
theorem ggX12_number_X12_cellOf : GoodIn wsX12_number wsX12_cellOf := goodIn_ca (goodIn_r _ [8, 9, 10, 1, 11, 12, 13, 14, 7, 15, 24, 25, 26, 27, 28, 29, 30, 31, 32, 33, 34, 35, 36, 37, 38, 39, 40, 41, 42, 43, 44, 45, 46, 47, 48, 49, 50, 51, 52, 53, 54, 55] (by decide +kernel) (by decide +kernel)) (goodIn_sub (fun _ h => List.mem_cons_of_mem _ (List.mem_append_right _ h)) (by decide +kernel))
set_option maxRecDepth 20000 in
theorem gX12_number_X12_cellOf : GoodIn wsX12_number (wsV RX12 179 RX12 yX12_cellOf wsX12_cellOf) := goodIn_app (goodIn_of _ (by decide +kernel)) ggX12_number_X12_cellOf
set_option maxRecDepth 20000 in
theorem ggX12_number_X11_lettersOf : GoodIn wsX12_number wsX11_lettersOf := goodIn_ca (goodIn_r _ [19, 20, 21, 18, 22, 23] (by decide +kernel) (by decide +kernel)) (goodIn_sub (fun _ h => List.mem_cons_of_mem _ (List.mem_append_left _ (List.mem_append_right _ h))) (by decide +kernel))
set_option maxRecDepth 20000 in
theorem gX12_number_X11_lettersOf : GoodIn wsX12_number (va_wsS RX12 188 yX11_lettersOf wsX11_lettersOf) := goodIn_app (goodIn_of _ (by decide +kernel)) ggX12_number_X11_lettersOf
theorem dX12_number_0 : decode cX12_number 0 = .ok (.aload_n 0, 1) := by decide +kernel
theorem dX12_number_1 : decode cX12_number 1 = .ok (.iload_n 1, 1) := by decide +kernel
theorem dX12_number_2 : decode cX12_number 2 = .ok (.iload_n 2, 1) := by decide +kernel
theorem dX12_number_3 : decode cX12_number 3 = .ok (.iload_n 3, 1) := by decide +kernel
theorem dX12_number_4 : decode cX12_number 4 = .ok (.invokevirtual 179, 3) := by decide +kernel
theorem dX12_number_7 : decode cX12_number 7 = .ok (.istore 4, 2) := by decide +kernel
theorem dX12_number_9 : decode cX12_number 9 = .ok (.aload_n 0, 1) := by decide +kernel
theorem dX12_number_10 : decode cX12_number 10 = .ok (.getfield 11, 3) := by decide +kernel
theorem dX12_number_13 : decode cX12_number 13 = .ok (.iload_n 1, 1) := by decide +kernel
theorem dX12_number_14 : decode cX12_number 14 = .ok (.aaload, 1) := by decide +kernel
theorem dX12_number_15 : decode cX12_number 15 = .ok (.getfield 183, 3) := by decide +kernel
theorem dX12_number_18 : decode cX12_number 18 = .ok (.astore 5, 2) := by decide +kernel
theorem dX12_number_20 : decode cX12_number 20 = .ok (.aload 5, 2) := by decide +kernel
theorem dX12_number_22 : decode cX12_number 22 = .ok (.iload 4, 2) := by decide +kernel
theorem dX12_number_24 : decode cX12_number 24 = .ok (.laload, 1) := by decide +kernel
theorem dX12_number_25 : decode cX12_number 25 = .ok (.ldc2_w 186, 3) := by decide +kernel
theorem dX12_number_28 : decode cX12_number 28 = .ok (.lcmp, 1) := by decide +kernel
theorem dX12_number_29 : decode cX12_number 29 = .ok (.ifCond .ne 14, 3) := by decide +kernel
theorem dX12_number_32 : decode cX12_number 32 = .ok (.aload 5, 2) := by decide +kernel
theorem dX12_number_34 : decode cX12_number 34 = .ok (.iload 4, 2) := by decide +kernel
theorem dX12_number_36 : decode cX12_number 36 = .ok (.invokestatic 188, 3) := by decide +kernel
theorem dX12_number_39 : decode cX12_number 39 = .ok (.i2l, 1) := by decide +kernel
theorem dX12_number_40 : decode cX12_number 40 = .ok (.goto 10, 3) := by decide +kernel
theorem dX12_number_43 : decode cX12_number 43 = .ok (.aload 5, 2) := by decide +kernel
theorem dX12_number_45 : decode cX12_number 45 = .ok (.iload 4, 2) := by decide +kernel
theorem dX12_number_47 : decode cX12_number 47 = .ok (.iconst 1, 1) := by decide +kernel
theorem dX12_number_48 : decode cX12_number 48 = .ok (.iadd, 1) := by decide +kernel
theorem dX12_number_49 : decode cX12_number 49 = .ok (.laload, 1) := by decide +kernel
theorem dX12_number_50 : decode cX12_number 50 = .ok (.lreturn, 1) := by decide +kernel
set_option maxRecDepth 20000 in
theorem ggX12_letter_X12_cellOf : GoodIn wsX12_letter wsX12_cellOf := goodIn_ca (goodIn_r _ [8, 9, 10, 1, 11, 12, 13, 14, 7, 15, 21, 22, 23, 24, 25, 26, 27, 28, 29, 30, 31, 32, 33, 34, 35, 36, 37, 38, 39, 40, 41, 42, 43, 44, 45, 46, 47, 48, 49, 50, 51, 52] (by decide +kernel) (by decide +kernel)) (goodIn_sub (fun _ h => List.mem_cons_of_mem _ (List.mem_append_right _ h)) (by decide +kernel))
set_option maxRecDepth 20000 in
theorem gX12_letter_X12_cellOf : GoodIn wsX12_letter (wsV RX12 179 RX12 yX12_cellOf wsX12_cellOf) := goodIn_app (goodIn_of _ (by decide +kernel)) ggX12_letter_X12_cellOf
set_option maxRecDepth 20000 in
theorem ggX12_letter_X11_letterOf : GoodIn wsX12_letter wsX11_letterOf := goodIn_ca (goodIn_r _ [19, 20] (by decide +kernel) (by decide +kernel)) (goodIn_sub (fun _ h => List.mem_cons_of_mem _ (List.mem_append_left _ (List.mem_append_right _ h))) (by decide +kernel))
set_option maxRecDepth 20000 in
theorem gX12_letter_X11_letterOf : GoodIn wsX12_letter (va_wsS RX12 192 yX11_letterOf wsX11_letterOf) := goodIn_app (goodIn_of _ (by decide +kernel)) ggX12_letter_X11_letterOf
theorem dX12_letter_0 : decode cX12_letter 0 = .ok (.aload_n 0, 1) := by decide +kernel
theorem dX12_letter_1 : decode cX12_letter 1 = .ok (.iload_n 1, 1) := by decide +kernel
theorem dX12_letter_2 : decode cX12_letter 2 = .ok (.iload_n 2, 1) := by decide +kernel
theorem dX12_letter_3 : decode cX12_letter 3 = .ok (.iload_n 3, 1) := by decide +kernel
theorem dX12_letter_4 : decode cX12_letter 4 = .ok (.invokevirtual 179, 3) := by decide +kernel
theorem dX12_letter_7 : decode cX12_letter 7 = .ok (.istore 5, 2) := by decide +kernel
theorem dX12_letter_9 : decode cX12_letter 9 = .ok (.aload_n 0, 1) := by decide +kernel
theorem dX12_letter_10 : decode cX12_letter 10 = .ok (.getfield 11, 3) := by decide +kernel
theorem dX12_letter_13 : decode cX12_letter 13 = .ok (.iload_n 1, 1) := by decide +kernel
theorem dX12_letter_14 : decode cX12_letter 14 = .ok (.aaload, 1) := by decide +kernel
theorem dX12_letter_15 : decode cX12_letter 15 = .ok (.getfield 183, 3) := by decide +kernel
theorem dX12_letter_18 : decode cX12_letter 18 = .ok (.astore 6, 2) := by decide +kernel
theorem dX12_letter_20 : decode cX12_letter 20 = .ok (.aload 6, 2) := by decide +kernel
theorem dX12_letter_22 : decode cX12_letter 22 = .ok (.iload 5, 2) := by decide +kernel
theorem dX12_letter_24 : decode cX12_letter 24 = .ok (.laload, 1) := by decide +kernel
theorem dX12_letter_25 : decode cX12_letter 25 = .ok (.ldc2_w 186, 3) := by decide +kernel
theorem dX12_letter_28 : decode cX12_letter 28 = .ok (.lcmp, 1) := by decide +kernel
theorem dX12_letter_29 : decode cX12_letter 29 = .ok (.ifCond .ne 15, 3) := by decide +kernel
theorem dX12_letter_32 : decode cX12_letter 32 = .ok (.aload 6, 2) := by decide +kernel
theorem dX12_letter_34 : decode cX12_letter 34 = .ok (.iload 5, 2) := by decide +kernel
theorem dX12_letter_36 : decode cX12_letter 36 = .ok (.iload 4, 2) := by decide +kernel
theorem dX12_letter_38 : decode cX12_letter 38 = .ok (.invokestatic 192, 3) := by decide +kernel
theorem dX12_letter_41 : decode cX12_letter 41 = .ok (.goto 4, 3) := by decide +kernel
theorem dX12_letter_44 : decode cX12_letter 44 = .ok (.iconst 0, 1) := by decide +kernel
theorem dX12_letter_45 : decode cX12_letter 45 = .ok (.ireturn, 1) := by decide +kernel
set_option maxRecDepth 20000 in
theorem ggX12_told_X4_waiters : GoodIn wsX12_told wsX4_waiters := goodIn_r _ [14, 15, 48, 49, 50, 51, 52, 53, 54, 55, 56, 57, 58] (by decide +kernel) (by decide +kernel)
set_option maxRecDepth 20000 in
theorem gX12_told_X4_waiters : GoodIn wsX12_told (wsV RX12 313 RX4 yX4_waiters wsX4_waiters) := goodIn_app (goodIn_of _ (by decide +kernel)) ggX12_told_X4_waiters
theorem dX12_told_0 : decode cX12_told 0 = .ok (.iload_n 1, 1) := by decide +kernel
theorem dX12_told_1 : decode cX12_told 1 = .ok (.tableswitch 107 0 7 #[47, 52, 57, 65, 73, 81, 94, 99], 47) := by decide +kernel
theorem dX12_told_48 : decode cX12_told 48 = .ok (.aload_n 0, 1) := by decide +kernel
theorem dX12_told_49 : decode cX12_told 49 = .ok (.getfield 307, 3) := by decide +kernel
theorem dX12_told_52 : decode cX12_told 52 = .ok (.ireturn, 1) := by decide +kernel
theorem dX12_told_53 : decode cX12_told 53 = .ok (.aload_n 0, 1) := by decide +kernel
theorem dX12_told_54 : decode cX12_told 54 = .ok (.getfield 310, 3) := by decide +kernel
theorem dX12_told_57 : decode cX12_told 57 = .ok (.ireturn, 1) := by decide +kernel
theorem dX12_told_58 : decode cX12_told 58 = .ok (.aload_n 0, 1) := by decide +kernel
theorem dX12_told_59 : decode cX12_told 59 = .ok (.getfield 79, 3) := by decide +kernel
theorem dX12_told_62 : decode cX12_told 62 = .ok (.getfield 241, 3) := by decide +kernel
theorem dX12_told_65 : decode cX12_told 65 = .ok (.ireturn, 1) := by decide +kernel
theorem dX12_told_66 : decode cX12_told 66 = .ok (.aload_n 0, 1) := by decide +kernel
theorem dX12_told_67 : decode cX12_told 67 = .ok (.getfield 79, 3) := by decide +kernel
theorem dX12_told_70 : decode cX12_told 70 = .ok (.getfield 253, 3) := by decide +kernel
theorem dX12_told_73 : decode cX12_told 73 = .ok (.ireturn, 1) := by decide +kernel
theorem dX12_told_74 : decode cX12_told 74 = .ok (.aload_n 0, 1) := by decide +kernel
theorem dX12_told_75 : decode cX12_told 75 = .ok (.getfield 79, 3) := by decide +kernel
theorem dX12_told_78 : decode cX12_told 78 = .ok (.getfield 299, 3) := by decide +kernel
theorem dX12_told_81 : decode cX12_told 81 = .ok (.ireturn, 1) := by decide +kernel
theorem dX12_told_82 : decode cX12_told 82 = .ok (.aload_n 0, 1) := by decide +kernel
theorem dX12_told_83 : decode cX12_told 83 = .ok (.getfield 56, 3) := by decide +kernel
theorem dX12_told_86 : decode cX12_told 86 = .ok (.ifCond .eq 7, 3) := by decide +kernel
theorem dX12_told_89 : decode cX12_told 89 = .ok (.iconst 1, 1) := by decide +kernel
theorem dX12_told_90 : decode cX12_told 90 = .ok (.goto 4, 3) := by decide +kernel
theorem dX12_told_93 : decode cX12_told 93 = .ok (.iconst 0, 1) := by decide +kernel
theorem dX12_told_94 : decode cX12_told 94 = .ok (.ireturn, 1) := by decide +kernel
theorem dX12_told_95 : decode cX12_told 95 = .ok (.aload_n 0, 1) := by decide +kernel
theorem dX12_told_96 : decode cX12_told 96 = .ok (.getfield 52, 3) := by decide +kernel
theorem dX12_told_99 : decode cX12_told 99 = .ok (.ireturn, 1) := by decide +kernel
theorem dX12_told_100 : decode cX12_told 100 = .ok (.aload_n 0, 1) := by decide +kernel
theorem dX12_told_101 : decode cX12_told 101 = .ok (.getfield 39, 3) := by decide +kernel
theorem dX12_told_104 : decode cX12_told 104 = .ok (.invokevirtual 313, 3) := by decide +kernel
theorem dX12_told_107 : decode cX12_told 107 = .ok (.ireturn, 1) := by decide +kernel
theorem dX12_told_108 : decode cX12_told 108 = .ok (.iconst (-1), 1) := by decide +kernel
theorem dX12_told_109 : decode cX12_told 109 = .ok (.ireturn, 1) := by decide +kernel

def qh_nn (o : Option Nat) : Int32 := match o with | none => 0 | some _ => 1
set_option maxHeartbeats 4000000 in
set_option maxRecDepth 100000 in
/-- number(session, row, column) -/
theorem c_X12_number (l : Launch) (hl9 : l.stackTraces = false) (dC : Nat → ClassId) (dI : Nat → Nat → Nat) (sz : Nat) (h0 ss tb pa ck ev pn lk jo orw nrw : Nat) (g10 g11 g12 g13 g14 g15 : Int32) (a0 tx cd ca pl : Nat) (f4 f5 f6 f7 f8 f9 f10 f11 f12 f13 f14 f15 : Int32) (p0 p1 p2 : Int32) (cSs : ClassId) (sf : Nat → Option Nat) (hf : ¬ p0 < 0 → p0 < 4 → sf p0.toNatClampNeg = some a0) (cJ : ClassId) (cf : Nat → Int64) (hin : ((¬ p0 < 0 ∧ p0 < 4) ∧ (¬ p1 < 0 ∧ ¬ f8 ≤ p1) ∧ (¬ p2 < 0 ∧ p2 < f9)) → vp_in ((p1 * f9 + p2) * 3) 10800 ∧ vp_in ((p1 * f9 + p2) * 3 + 1) 10800 ∧ vp_in ((p1 * f9 + p2) * 3 + 2) 10800) (sS sC : Nat) : vx_Met l yX12_number wsX12_number ({ frames := 8, cells := 2, slots := 12, locals := 160 }) (va_Pc [.ref h0, .int p0, .int p1, .int p2] (fun U => U.heap.size = sz ∧ va_P (dC, dI) vwCl [(h0, .inr (17, [.ref ss, .ref tb, .ref pa, .ref ck, .ref ev, .ref pn, .ref lk, .ref jo, .ref orw, .ref nrw, .int g10, .int g11, .int g12, .int g13, .int g14, .int g15])), (ss, .inl (cSs, 4, .inr (.inr (.inr (.inr sf))))), (a0, .inr (15, [.ref tx, .ref cd, .ref ca, .ref pl, .int f4, .int f5, .int f6, .int f7, .int f8, .int f9, .int f10, .int f11, .int f12, .int f13, .int f14, .int f15])), (ca, .inl (cJ, 10800, .inr (.inl cf)))] U.heap ∧ va_K (dC, dI) vwCl [(cSs, .object RX10), (cJ, .long)] U ∧ va_D (fun _ => True) [(h0, .inr (17, [.ref ss, .ref tb, .ref pa, .ref ck, .ref ev, .ref pn, .ref lk, .ref jo, .ref orw, .ref nrw, .int g10, .int g11, .int g12, .int g13, .int g14, .int g15])), (ss, .inl (cSs, 4, .inr (.inr (.inr (.inr sf))))), (a0, .inr (15, [.ref tx, .ref cd, .ref ca, .ref pl, .int f4, .int f5, .int f6, .int f7, .int f8, .int f9, .int f10, .int f11, .int f12, .int f13, .int f14, .int f15])), (ca, .inl (cJ, 10800, .inr (.inl cf)))] ∧ vk_R RX12 316 "no such session" sS U ∧ vk_R RX12 324 "no such row or column" sC U ∧ qh_E "java/lang/IndexOutOfBoundsException" "(Ljava/lang/String;)V" U ∧ qh_T (va_A [(h0, .inr (17, [.ref ss, .ref tb, .ref pa, .ref ck, .ref ev, .ref pn, .ref lk, .ref jo, .ref orw, .ref nrw, .int g10, .int g11, .int g12, .int g13, .int g14, .int g15])), (ss, .inl (cSs, 4, .inr (.inr (.inr (.inr sf))))), (a0, .inr (15, [.ref tx, .ref cd, .ref ca, .ref pl, .int f4, .int f5, .int f6, .int f7, .int f8, .int f9, .int f10, .int f11, .int f12, .int f13, .int f14, .int f15])), (ca, .inl (cJ, 10800, .inr (.inl cf)))] sz) U U.heap)) (va_Ql (fun (r : Int64) (_ : Unit) => ((¬ p0 < 0 ∧ p0 < 4) ∧ (¬ p1 < 0 ∧ ¬ f8 ≤ p1) ∧ (¬ p2 < 0 ∧ p2 < f9)) ∧ r = (if lg_cmp (cf ((p1 * f9 + p2) * 3).toNatClampNeg) 3 = 0 then (qh_letters cf ((p1 * f9 + p2) * 3)).toInt64 else cf ((p1 * f9 + p2) * 3 + 1).toNatClampNeg)) (fun (_ : Unit) (t : State) => va_P (dC, dI) vwCl [(h0, .inr (17, [.ref ss, .ref tb, .ref pa, .ref ck, .ref ev, .ref pn, .ref lk, .ref jo, .ref orw, .ref nrw, .int g10, .int g11, .int g12, .int g13, .int g14, .int g15])), (ss, .inl (cSs, 4, .inr (.inr (.inr (.inr sf))))), (a0, .inr (15, [.ref tx, .ref cd, .ref ca, .ref pl, .int f4, .int f5, .int f6, .int f7, .int f8, .int f9, .int f10, .int f11, .int f12, .int f13, .int f14, .int f15])), (ca, .inl (cJ, 10800, .inr (.inl cf)))] t.heap ∧ va_K (dC, dI) vwCl [(cSs, .object RX10), (cJ, .long)] t ∧ va_D (va_A [(h0, .inr (17, [.ref ss, .ref tb, .ref pa, .ref ck, .ref ev, .ref pn, .ref lk, .ref jo, .ref orw, .ref nrw, .int g10, .int g11, .int g12, .int g13, .int g14, .int g15])), (ss, .inl (cSs, 4, .inr (.inr (.inr (.inr sf))))), (a0, .inr (15, [.ref tx, .ref cd, .ref ca, .ref pl, .int f4, .int f5, .int f6, .int f7, .int f8, .int f9, .int f10, .int f11, .int f12, .int f13, .int f14, .int f15])), (ca, .inl (cJ, 10800, .inr (.inl cf)))] sz) [(h0, .inr (17, [.ref ss, .ref tb, .ref pa, .ref ck, .ref ev, .ref pn, .ref lk, .ref jo, .ref orw, .ref nrw, .int g10, .int g11, .int g12, .int g13, .int g14, .int g15])), (ss, .inl (cSs, 4, .inr (.inr (.inr (.inr sf))))), (a0, .inr (15, [.ref tx, .ref cd, .ref ca, .ref pl, .int f4, .int f5, .int f6, .int f7, .int f8, .int f9, .int f10, .int f11, .int f12, .int f13, .int f14, .int f15])), (ca, .inl (cJ, 10800, .inr (.inl cf)))]) (va_A [(h0, .inr (17, [.ref ss, .ref tb, .ref pa, .ref ck, .ref ev, .ref pn, .ref lk, .ref jo, .ref orw, .ref nrw, .int g10, .int g11, .int g12, .int g13, .int g14, .int g15])), (ss, .inl (cSs, 4, .inr (.inr (.inr (.inr sf))))), (a0, .inr (15, [.ref tx, .ref cd, .ref ca, .ref pl, .int f4, .int f5, .int f6, .int f7, .int f8, .int f9, .int f10, .int f11, .int f12, .int f13, .int f14, .int f15])), (ca, .inl (cJ, 10800, .inr (.inl cf)))] sz)) (vx_X (fun (_ : Unit) => ¬ ((¬ p0 < 0 ∧ p0 < 4) ∧ (¬ p1 < 0 ∧ ¬ f8 ≤ p1) ∧ (¬ p2 < 0 ∧ p2 < f9))) (fun E (_ : Unit) t => E = "java/lang/IndexOutOfBoundsException" ∧ va_P (dC, dI) vwCl [(h0, .inr (17, [.ref ss, .ref tb, .ref pa, .ref ck, .ref ev, .ref pn, .ref lk, .ref jo, .ref orw, .ref nrw, .int g10, .int g11, .int g12, .int g13, .int g14, .int g15])), (ss, .inl (cSs, 4, .inr (.inr (.inr (.inr sf))))), (a0, .inr (15, [.ref tx, .ref cd, .ref ca, .ref pl, .int f4, .int f5, .int f6, .int f7, .int f8, .int f9, .int f10, .int f11, .int f12, .int f13, .int f14, .int f15])), (ca, .inl (cJ, 10800, .inr (.inl cf)))] t.heap ∧ va_K (dC, dI) vwCl [(cSs, .object RX10), (cJ, .long)] t ∧ va_D (va_A [(h0, .inr (17, [.ref ss, .ref tb, .ref pa, .ref ck, .ref ev, .ref pn, .ref lk, .ref jo, .ref orw, .ref nrw, .int g10, .int g11, .int g12, .int g13, .int g14, .int g15])), (ss, .inl (cSs, 4, .inr (.inr (.inr (.inr sf))))), (a0, .inr (15, [.ref tx, .ref cd, .ref ca, .ref pl, .int f4, .int f5, .int f6, .int f7, .int f8, .int f9, .int f10, .int f11, .int f12, .int f13, .int f14, .int f15])), (ca, .inl (cJ, 10800, .inr (.inl cf)))] sz) [(h0, .inr (17, [.ref ss, .ref tb, .ref pa, .ref ck, .ref ev, .ref pn, .ref lk, .ref jo, .ref orw, .ref nrw, .int g10, .int g11, .int g12, .int g13, .int g14, .int g15])), (ss, .inl (cSs, 4, .inr (.inr (.inr (.inr sf))))), (a0, .inr (15, [.ref tx, .ref cd, .ref ca, .ref pl, .int f4, .int f5, .int f6, .int f7, .int f8, .int f9, .int f10, .int f11, .int f12, .int f13, .int f14, .int f15])), (ca, .inl (cJ, 10800, .inr (.inl cf)))]) (va_A [(h0, .inr (17, [.ref ss, .ref tb, .ref pa, .ref ck, .ref ev, .ref pn, .ref lk, .ref jo, .ref orw, .ref nrw, .int g10, .int g11, .int g12, .int g13, .int g14, .int g15])), (ss, .inl (cSs, 4, .inr (.inr (.inr (.inr sf))))), (a0, .inr (15, [.ref tx, .ref cd, .ref ca, .ref pl, .int f4, .int f5, .int f6, .int f7, .int f8, .int f9, .int f10, .int f11, .int f12, .int f13, .int f14, .int f15])), (ca, .inl (cJ, 10800, .inr (.inl cf)))] sz)) 2 12 (va_A [(h0, .inr (17, [.ref ss, .ref tb, .ref pa, .ref ck, .ref ev, .ref pn, .ref lk, .ref jo, .ref orw, .ref nrw, .int g10, .int g11, .int g12, .int g13, .int g14, .int g15])), (ss, .inl (cSs, 4, .inr (.inr (.inr (.inr sf))))), (a0, .inr (15, [.ref tx, .ref cd, .ref ca, .ref pl, .int f4, .int f5, .int f6, .int f7, .int f8, .int f9, .int f10, .int f11, .int f12, .int f13, .int f14, .int f15])), (ca, .inl (cJ, 10800, .inr (.inl cf)))] sz) := by
  refine vx_ofW (cc := cX12_number) (maxL := 6) (ret := (some .long)) (by decide) rfl ?_
  intro p e s m args below meth c s₁ B hml hEx hv
  obtain ⟨rfl, hsz, hP, hK, hD0, hE0, hE1, hE2, hE3⟩ := hv
  have hx := B.exec
  have hb := B.bytes
  have hr := B.returns
  have hts := atoms_spec (ws := wsX12_number) B.pre
  have hown : s.vm.findClass RX12 = some m.cls := findClass_of_methodNamed B.named
  have hlocks := B.notSynchronized
  subst hsz
  have hD := hD0.self (sz := s.heap.size)
  generalize hAe : va_A [(h0, .inr (17, [.ref ss, .ref tb, .ref pa, .ref ck, .ref ev, .ref pn, .ref lk, .ref jo, .ref orw, .ref nrw, .int g10, .int g11, .int g12, .int g13, .int g14, .int g15])), (ss, .inl (cSs, 4, .inr (.inr (.inr (.inr sf))))), (a0, .inr (15, [.ref tx, .ref cd, .ref ca, .ref pl, .int f4, .int f5, .int f6, .int f7, .int f8, .int f9, .int f10, .int f11, .int f12, .int f13, .int f14, .int f15])), (ca, .inl (cJ, 10800, .inr (.inl cf)))] s.heap.size = A at hD hE3 ⊢
  have hA : ∀ q : Nat, s.heap.size ≤ q → A q := fun q h => by rw [← hAe]; exact Or.inr h
  have hS : va_S A s.heap s.heap [] := va_S.rf
  have hP : va_P (dC, dI) vwCl [(h0, .inr (17, [.ref ss, .ref tb, .ref pa, .ref ck, .ref ev, .ref pn, .ref lk, .ref jo, .ref orw, .ref nrw, .int g10, .int g11, .int g12, .int g13, .int g14, .int g15])), (ss, .inl (cSs, 4, .inr (.inr (.inr (.inr sf))))), (a0, .inr (15, [.ref tx, .ref cd, .ref ca, .ref pl, .int f4, .int f5, .int f6, .int f7, .int f8, .int f9, .int f10, .int f11, .int f12, .int f13, .int f14, .int f15])), (ca, .inl (cJ, 10800, .inr (.inl cf)))] s.heap := hP
  have hl := lv_entry ([.ref h0, .int p0, .int p1, .int p2]) (n := 6) (Nat.le_of_ble_eq_true rfl)
  rw [lg_entry_eq]
  generalize (lg_sl ([.ref h0, .int p0, .int p1, .int p2]) ++ List.replicate (6 - (lg_sl ([.ref h0, .int p0, .int p1, .int p2])).length) Slot.unset).toArray = ls at hl ⊢
  have hl : lv_has ls 6 [(0, .ref h0), (1, .int p0), (2, .int p1), (3, .int p2)] := hl
  refine lv_aload_n hx hb dX12_number_0 rfl (lv_at hl 0 rfl) ?_
  refine lv_iload_n hx hb dX12_number_1 rfl (lv_at hl 1 rfl) ?_
  refine lv_iload_n hx hb dX12_number_2 rfl (lv_at hl 2 rfl) ?_
  refine lv_iload_n hx hb dX12_number_3 rfl (lv_at hl 3 rfl) ?_
  have hPc := hP.sub (ws' := [(h0, .inr (17, [.ref ss, .ref tb, .ref pa, .ref ck, .ref ev, .ref pn, .ref lk, .ref jo, .ref orw, .ref nrw, .int g10, .int g11, .int g12, .int g13, .int g14, .int g15])), (ss, .inl (cSs, 4, .inr (.inr (.inr (.inr sf))))), (a0, .inr (15, [.ref tx, .ref cd, .ref ca, .ref pl, .int f4, .int f5, .int f6, .int f7, .int f8, .int f9, .int f10, .int f11, .int f12, .int f13, .int f14, .int f15]))]) [0, 1, 2] rfl
  have hDc := hD.sub (ws' := [(h0, .inr (17, [.ref ss, .ref tb, .ref pa, .ref ck, .ref ev, .ref pn, .ref lk, .ref jo, .ref orw, .ref nrw, .int g10, .int g11, .int g12, .int g13, .int g14, .int g15])), (ss, .inl (cSs, 4, .inr (.inr (.inr (.inr sf))))), (a0, .inr (15, [.ref tx, .ref cd, .ref ca, .ref pl, .int f4, .int f5, .int f6, .int f7, .int f8, .int f9, .int f10, .int f11, .int f12, .int f13, .int f14, .int f15]))]) [0, 1, 2] (by decide) rfl
  have hKc := hK.sub (tys' := [(cSs, .object RX10)]) [0] rfl
  have hFc := va_free (wc := [(h0, .inr (17, [.ref ss, .ref tb, .ref pa, .ref ck, .ref ev, .ref pn, .ref lk, .ref jo, .ref orw, .ref nrw, .int g10, .int g11, .int g12, .int g13, .int g14, .int g15])), (ss, .inl (cSs, 4, .inr (.inr (.inr (.inr sf))))), (a0, .inr (15, [.ref tx, .ref cd, .ref ca, .ref pl, .int f4, .int f5, .int f6, .int f7, .int f8, .int f9, .int f10, .int f11, .int f12, .int f13, .int f14, .int f15]))]) hD hS hA [0, 1, 2] rfl
  refine vx_calli (vx_runV (As := [.int p0, .int p1, .int p2]) (rest := []) ⟨hx, hb, hml, hown, hts⟩ (c_X12_cellOf l hl9 dC dI s.heap.size h0 ss tb pa ck ev pn lk jo orw nrw g10 g11 g12 g13 g14 g15 a0 tx cd ca pl f4 f5 f6 f7 f8 f9 f10 f11 f12 f13 f14 f15 p0 p1 p2 cSs sf hf sS sC) (cwV 3 hts gX12_number_X12_cellOf rfl rfl rfl (by decide +kernel) ⟨Nat.le_of_ble_eq_true rfl, Nat.le_of_ble_eq_true rfl⟩) ⟨fun a U g mk q => by obtain ⟨q0, q1, qP, qK, qD, qE0, qE1, qE2, qE3⟩ := q; exact ⟨q0, q1, qP, va_K.moved (u := U) (U := U.calling g mk a) (Vm.Alike.refl U.vm) qK, qD, vk_R.same rfl qE0, vk_R.same rfl qE1, qh_E.same rfl qE2, qh_T.moved (u := U) (U := U.calling g mk a) (Vm.Alike.refl U.vm) qE3⟩, va_recv hKc hPc (ci := 17) (q0 := 0) rfl rfl, fun U hU hW => ⟨rfl, by rw [hU], by rw [hU]; exact hPc, va_K.moved hW.alike hKc, hDc.weaken (fun _ _ _ _ => trivial), vk_R.warm hW hE0, vk_R.warm hW hE1, qh_E.warm hW hE2, by rw [hU]; exact qh_T.moved hW.alike (qh_T.narrow (qh_T.kept hE3 hS.2.1) (fun q h => hFc q h))⟩⟩ rfl rfl hl.1 rfl (lv_room (Nat.le_of_ble_eq_true rfl)) dX12_number_4 ⟨Nat.le_of_ble_eq_true rfl, Nat.le_of_ble_eq_true rfl⟩) hS (fun q _ h => hFc q h) hFc (fun q _ h => hFc q h) (fun E ce q9 u t H1 locs ht hvm hw hB hz1 hk1 hS hce hcv hcl => ?_) (fun r_1 u t H1 locs ht hvm hw hB hz1 hk1 hS => ?_)
  · skip
    obtain ⟨rfl, hP1, hK1, hD1⟩ := hB
    rw [ht] at hP1
    obtain ⟨hP, hD⟩ := va_join (wr := [(ca, .inl (cJ, 10800, .inr (.inl cf)))]) (w1 := [(h0, .inr (17, [.ref ss, .ref tb, .ref pa, .ref ck, .ref ev, .ref pn, .ref lk, .ref jo, .ref orw, .ref nrw, .int g10, .int g11, .int g12, .int g13, .int g14, .int g15])), (ss, .inl (cSs, 4, .inr (.inr (.inr (.inr sf))))), (a0, .inr (15, [.ref tx, .ref cd, .ref ca, .ref pl, .int f4, .int f5, .int f6, .int f7, .int f8, .int f9, .int f10, .int f11, .int f12, .int f13, .int f14, .int f15]))]) hP hD [0, 1, 2] [3] rfl rfl (by decide) (by decide) hk1 hFc hP1 hD1
    generalize H1 = H at hP hS hce ⊢
    have hP := hP.sub (ws' := [(h0, .inr (17, [.ref ss, .ref tb, .ref pa, .ref ck, .ref ev, .ref pn, .ref lk, .ref jo, .ref orw, .ref nrw, .int g10, .int g11, .int g12, .int g13, .int g14, .int g15])), (ss, .inl (cSs, 4, .inr (.inr (.inr (.inr sf))))), (a0, .inr (15, [.ref tx, .ref cd, .ref ca, .ref pl, .int f4, .int f5, .int f6, .int f7, .int f8, .int f9, .int f10, .int f11, .int f12, .int f13, .int f14, .int f15])), (ca, .inl (cJ, 10800, .inr (.inl cf)))]) [1, 2, 3, 0] rfl
    have hD := hD.sub (ws' := [(h0, .inr (17, [.ref ss, .ref tb, .ref pa, .ref ck, .ref ev, .ref pn, .ref lk, .ref jo, .ref orw, .ref nrw, .int g10, .int g11, .int g12, .int g13, .int g14, .int g15])), (ss, .inl (cSs, 4, .inr (.inr (.inr (.inr sf))))), (a0, .inr (15, [.ref tx, .ref cd, .ref ca, .ref pl, .int f4, .int f5, .int f6, .int f7, .int f8, .int f9, .int f10, .int f11, .int f12, .int f13, .int f14, .int f15])), (ca, .inl (cJ, 10800, .inr (.inl cf)))]) [1, 2, 3, 0] (by decide) rfl
    have hP9 := hP.sub (ws' := [(h0, .inr (17, [.ref ss, .ref tb, .ref pa, .ref ck, .ref ev, .ref pn, .ref lk, .ref jo, .ref orw, .ref nrw, .int g10, .int g11, .int g12, .int g13, .int g14, .int g15])), (ss, .inl (cSs, 4, .inr (.inr (.inr (.inr sf))))), (a0, .inr (15, [.ref tx, .ref cd, .ref ca, .ref pl, .int f4, .int f5, .int f6, .int f7, .int f8, .int f9, .int f10, .int f11, .int f12, .int f13, .int f14, .int f15])), (ca, .inl (cJ, 10800, .inr (.inl cf)))]) [0, 1, 2, 3] rfl
    have hD9 := hD.sub (ws' := [(h0, .inr (17, [.ref ss, .ref tb, .ref pa, .ref ck, .ref ev, .ref pn, .ref lk, .ref jo, .ref orw, .ref nrw, .int g10, .int g11, .int g12, .int g13, .int g14, .int g15])), (ss, .inl (cSs, 4, .inr (.inr (.inr (.inr sf))))), (a0, .inr (15, [.ref tx, .ref cd, .ref ca, .ref pl, .int f4, .int f5, .int f6, .int f7, .int f8, .int f9, .int f10, .int f11, .int f12, .int f13, .int f14, .int f15])), (ca, .inl (cJ, 10800, .inr (.inl cf)))]) [0, 1, 2, 3] (by decide) rfl
    have hK9 := hK.sub (tys' := [(cSs, .object RX10), (cJ, .long)]) [0, 1] rfl
    exact vx_out (E := "java/lang/IndexOutOfBoundsException") (fun x hx => (hEx x hx).elim) hlocks hce hcv hcl (fun t ht ha => ⟨(), hw, ⟨rfl, by rw [ht]; exact hP9, va_K.moved ha hK9, hD9⟩, hS.F ht⟩) hS.2.2 (Nat.le_of_ble_eq_true rfl) (Nat.le_of_ble_eq_true rfl)
  obtain ⟨hP1, hK1, hD1⟩ := hB
  rw [ht] at hP1
  obtain ⟨hP, hD⟩ := va_join (wr := [(ca, .inl (cJ, 10800, .inr (.inl cf)))]) (w1 := [(h0, .inr (17, [.ref ss, .ref tb, .ref pa, .ref ck, .ref ev, .ref pn, .ref lk, .ref jo, .ref orw, .ref nrw, .int g10, .int g11, .int g12, .int g13, .int g14, .int g15])), (ss, .inl (cSs, 4, .inr (.inr (.inr (.inr sf))))), (a0, .inr (15, [.ref tx, .ref cd, .ref ca, .ref pl, .int f4, .int f5, .int f6, .int f7, .int f8, .int f9, .int f10, .int f11, .int f12, .int f13, .int f14, .int f15]))]) hP hD [0, 1, 2] [3] rfl rfl (by decide) (by decide) hk1 hFc hP1 hD1
  generalize H1 = H at hP hS ⊢
  have hP := hP.sub (ws' := [(h0, .inr (17, [.ref ss, .ref tb, .ref pa, .ref ck, .ref ev, .ref pn, .ref lk, .ref jo, .ref orw, .ref nrw, .int g10, .int g11, .int g12, .int g13, .int g14, .int g15])), (ss, .inl (cSs, 4, .inr (.inr (.inr (.inr sf))))), (a0, .inr (15, [.ref tx, .ref cd, .ref ca, .ref pl, .int f4, .int f5, .int f6, .int f7, .int f8, .int f9, .int f10, .int f11, .int f12, .int f13, .int f14, .int f15])), (ca, .inl (cJ, 10800, .inr (.inl cf)))]) [1, 2, 3, 0] rfl
  have hD := hD.sub (ws' := [(h0, .inr (17, [.ref ss, .ref tb, .ref pa, .ref ck, .ref ev, .ref pn, .ref lk, .ref jo, .ref orw, .ref nrw, .int g10, .int g11, .int g12, .int g13, .int g14, .int g15])), (ss, .inl (cSs, 4, .inr (.inr (.inr (.inr sf))))), (a0, .inr (15, [.ref tx, .ref cd, .ref ca, .ref pl, .int f4, .int f5, .int f6, .int f7, .int f8, .int f9, .int f10, .int f11, .int f12, .int f13, .int f14, .int f15])), (ca, .inl (cJ, 10800, .inr (.inl cf)))]) [1, 2, 3, 0] (by decide) rfl
  have hw_2 := hw
  refine lv_istore (lv' := [(4, .int r_1), (0, .ref h0), (1, .int p0), (2, .int p1), (3, .int p2)]) hx hb dX12_number_7 hl (by decide) rfl (fun ls hl => ?_)
  refine lv_aload_n hx hb dX12_number_9 rfl (lv_at hl 1 rfl) ?_
  refine va_get (D := (dC, dI)) (ci := 17) (v := .ref ss) (C := RX12) (T := TX12) (N := 16) hx hb hts (by decide +kernel) hown hK hP 0 rfl rfl 0 (by decide) (hts (.fieldLink RX12 11 "QueryHall" "sessions" "[LQueryHall$Session;") (by decide +kernel)) (fun _ h9 => h9) rfl dX12_number_10 ?_
  refine lv_iload_n hx hb dX12_number_13 rfl (lv_at hl 2 rfl) ?_
  refine va_aldq hx hb hK hP 1 0 rfl rfl (qh_in (y := 4) rfl hw_2.1.1.1 hw_2.1.1.2) dX12_number_14 ?_
  refine W.eq (g2 := F0 m 15 ls [.ref a0]) (by rw [hf hw_2.1.1.1 hw_2.1.1.2]; rfl) ?_
  refine va_get (D := (dC, dI)) (ci := 15) (v := .ref ca) (C := RX10) (T := TX10) (N := 16) hx hb hts (by decide +kernel) hown hK hP 2 rfl rfl 2 (by decide) (hts (.fieldLink RX12 183 "QueryHall$Session" "cells" "[J") (by decide +kernel)) (fun _ h9 => h9) rfl dX12_number_15 ?_
  refine lv_astore (lv' := [(5, .ref ca), (4, .int r_1), (0, .ref h0), (1, .int p0), (2, .int p1), (3, .int p2)]) hx hb dX12_number_18 hl (by decide) rfl (fun ls hl => ?_)
  refine lv_aload hx hb dX12_number_20 (lv_at hl 0 rfl) ?_
  refine lv_iload hx hb dX12_number_22 (lv_at hl 1 rfl) ?_
  refine va_lald hx hb hK hP 3 1 rfl rfl (by rw [hw_2.2]; exact (hin hw_2.1).1) dX12_number_24 ?_
  refine lv_ldc2 (own := RX12) (v := 3) hx hb hown (hts (.constantLong RX12 186 (3)) (by decide +kernel)) dX12_number_25 ?_
  refine W.lcmp hx hb dX12_number_28 ?_
  refine lv_if_ne (tgt := 43) hx hb dX12_number_29 (by decide) (fun c_3 => ?_) (fun c_3 => ?_)
  · skip
    refine lv_aload hx hb dX12_number_43 (lv_at hl 0 rfl) ?_
    refine lv_iload hx hb dX12_number_45 (lv_at hl 1 rfl) ?_
    refine lv_iconst (v := 1) hx hb dX12_number_47 (by decide) ?_
    refine lv_iadd hx hb dX12_number_48 ?_
    refine va_lald hx hb hK hP 3 1 rfl rfl (by rw [hw_2.2]; exact (hin hw_2.1).2.1) dX12_number_49 ?_
    have hP9 := hP.sub (ws' := [(h0, .inr (17, [.ref ss, .ref tb, .ref pa, .ref ck, .ref ev, .ref pn, .ref lk, .ref jo, .ref orw, .ref nrw, .int g10, .int g11, .int g12, .int g13, .int g14, .int g15])), (ss, .inl (cSs, 4, .inr (.inr (.inr (.inr sf))))), (a0, .inr (15, [.ref tx, .ref cd, .ref ca, .ref pl, .int f4, .int f5, .int f6, .int f7, .int f8, .int f9, .int f10, .int f11, .int f12, .int f13, .int f14, .int f15])), (ca, .inl (cJ, 10800, .inr (.inl cf)))]) [0, 1, 2, 3] rfl
    have hD9 := hD.sub (ws' := [(h0, .inr (17, [.ref ss, .ref tb, .ref pa, .ref ck, .ref ev, .ref pn, .ref lk, .ref jo, .ref orw, .ref nrw, .int g10, .int g11, .int g12, .int g13, .int g14, .int g15])), (ss, .inl (cSs, 4, .inr (.inr (.inr (.inr sf))))), (a0, .inr (15, [.ref tx, .ref cd, .ref ca, .ref pl, .int f4, .int f5, .int f6, .int f7, .int f8, .int f9, .int f10, .int f11, .int f12, .int f13, .int f14, .int f15])), (ca, .inl (cJ, 10800, .inr (.inl cf)))]) [0, 1, 2, 3] (by decide) rfl
    have hK9 := hK.sub (tys' := [(cSs, .object RX10), (cJ, .long)]) [0, 1] rfl
    refine W.widen (k := 2) (n := 12) (Nat.le_of_ble_eq_true rfl) (Nat.le_of_ble_eq_true rfl) ?_
    exact vx_ret (W.lret (v := cf (r_1 + 1).toNatClampNeg) hx hb hr (fun t ht hW => ⟨⟨cf (r_1 + 1).toNatClampNeg, (), rfl, ⟨hw_2.1, by have zz := hw_2.2; subst_vars; try (first | rw [if_pos c_3] | rw [if_neg c_3]); try rfl⟩, by rw [ht]; exact hP9, va_K.moved hW.alike hK9, hD9⟩, hS.F ht⟩) hS.2.2 dX12_number_50)
  · skip
    refine lv_aload hx hb dX12_number_32 (lv_at hl 0 rfl) ?_
    refine lv_iload hx hb dX12_number_34 (lv_at hl 1 rfl) ?_
    have hPc := hP.sub (ws' := [(ca, .inl (cJ, 10800, .inr (.inl cf)))]) [3] rfl
    have hDc := hD.sub (ws' := [(ca, .inl (cJ, 10800, .inr (.inl cf)))]) [3] (by decide) rfl
    have hKc := hK.sub (tys' := [(cJ, .long)]) [1] rfl
    have hFc := va_free (wc := [(ca, .inl (cJ, 10800, .inr (.inl cf)))]) hD hS hA [3] rfl
    refine va_calli (va_runS (As := [.ref ca, .int r_1]) (rest := []) ⟨hx, hb, hml, hown, hts⟩ (c_X11_lettersOf l dC dI H.size cJ ca 10800 cf r_1 ((by rw [hw_2.2]; exact ⟨(hin hw_2.1).2.1, (hin hw_2.1).2.2⟩))) (va_cwS 2 hts gX12_number_X11_lettersOf rfl rfl rfl (by decide +kernel) ⟨Nat.le_of_ble_eq_true rfl, Nat.le_of_ble_eq_true rfl⟩) ⟨fun a U g mk q => by obtain ⟨q0, q1, qP, qK, qD⟩ := q; exact ⟨q0, q1, qP, va_K.moved (u := U) (U := U.calling g mk a) (Vm.Alike.refl U.vm) qK, qD⟩, fun U hU hW => ⟨rfl, by rw [hU], by rw [hU]; exact hPc, va_K.moved hW.alike hKc, hDc.weaken (fun _ _ _ _ => trivial)⟩⟩ rfl rfl hl.1 rfl (lv_room (Nat.le_of_ble_eq_true rfl)) dX12_number_36 ⟨Nat.le_of_ble_eq_true rfl, Nat.le_of_ble_eq_true rfl⟩) hS (fun q _ h => hFc q h) hFc (fun r_4 u t H1 locs ht hvm hw hB hz1 hk1 hS => ?_)
    obtain ⟨hP1, hK1, hD1⟩ := hB
    rw [ht] at hP1
    obtain ⟨hP, hD⟩ := va_join (wr := [(h0, .inr (17, [.ref ss, .ref tb, .ref pa, .ref ck, .ref ev, .ref pn, .ref lk, .ref jo, .ref orw, .ref nrw, .int g10, .int g11, .int g12, .int g13, .int g14, .int g15])), (ss, .inl (cSs, 4, .inr (.inr (.inr (.inr sf))))), (a0, .inr (15, [.ref tx, .ref cd, .ref ca, .ref pl, .int f4, .int f5, .int f6, .int f7, .int f8, .int f9, .int f10, .int f11, .int f12, .int f13, .int f14, .int f15]))]) (w1 := [(ca, .inl (cJ, 10800, .inr (.inl cf)))]) hP hD [3] [0, 1, 2] rfl rfl (by decide) (by decide) hk1 hFc hP1 hD1
    generalize H1 = H at hP hS ⊢
    have hP := hP.sub (ws' := [(h0, .inr (17, [.ref ss, .ref tb, .ref pa, .ref ck, .ref ev, .ref pn, .ref lk, .ref jo, .ref orw, .ref nrw, .int g10, .int g11, .int g12, .int g13, .int g14, .int g15])), (ss, .inl (cSs, 4, .inr (.inr (.inr (.inr sf))))), (a0, .inr (15, [.ref tx, .ref cd, .ref ca, .ref pl, .int f4, .int f5, .int f6, .int f7, .int f8, .int f9, .int f10, .int f11, .int f12, .int f13, .int f14, .int f15])), (ca, .inl (cJ, 10800, .inr (.inl cf)))]) [0, 1, 2, 3] rfl
    have hD := hD.sub (ws' := [(h0, .inr (17, [.ref ss, .ref tb, .ref pa, .ref ck, .ref ev, .ref pn, .ref lk, .ref jo, .ref orw, .ref nrw, .int g10, .int g11, .int g12, .int g13, .int g14, .int g15])), (ss, .inl (cSs, 4, .inr (.inr (.inr (.inr sf))))), (a0, .inr (15, [.ref tx, .ref cd, .ref ca, .ref pl, .int f4, .int f5, .int f6, .int f7, .int f8, .int f9, .int f10, .int f11, .int f12, .int f13, .int f14, .int f15])), (ca, .inl (cJ, 10800, .inr (.inl cf)))]) [0, 1, 2, 3] (by decide) rfl
    have hw : r_4 = qh_letters cf r_1 := hw
    subst hw
    refine lv_i2l hx hb dX12_number_39 rfl ?_
    refine lv_goto (tgt := 50) hx hb dX12_number_40 (by decide) ?_
    have hP9 := hP.sub (ws' := [(h0, .inr (17, [.ref ss, .ref tb, .ref pa, .ref ck, .ref ev, .ref pn, .ref lk, .ref jo, .ref orw, .ref nrw, .int g10, .int g11, .int g12, .int g13, .int g14, .int g15])), (ss, .inl (cSs, 4, .inr (.inr (.inr (.inr sf))))), (a0, .inr (15, [.ref tx, .ref cd, .ref ca, .ref pl, .int f4, .int f5, .int f6, .int f7, .int f8, .int f9, .int f10, .int f11, .int f12, .int f13, .int f14, .int f15])), (ca, .inl (cJ, 10800, .inr (.inl cf)))]) [0, 1, 2, 3] rfl
    have hD9 := hD.sub (ws' := [(h0, .inr (17, [.ref ss, .ref tb, .ref pa, .ref ck, .ref ev, .ref pn, .ref lk, .ref jo, .ref orw, .ref nrw, .int g10, .int g11, .int g12, .int g13, .int g14, .int g15])), (ss, .inl (cSs, 4, .inr (.inr (.inr (.inr sf))))), (a0, .inr (15, [.ref tx, .ref cd, .ref ca, .ref pl, .int f4, .int f5, .int f6, .int f7, .int f8, .int f9, .int f10, .int f11, .int f12, .int f13, .int f14, .int f15])), (ca, .inl (cJ, 10800, .inr (.inl cf)))]) [0, 1, 2, 3] (by decide) rfl
    have hK9 := hK.sub (tys' := [(cSs, .object RX10), (cJ, .long)]) [0, 1] rfl
    refine W.widen (k := 2) (n := 12) (Nat.le_of_ble_eq_true rfl) (Nat.le_of_ble_eq_true rfl) ?_
    exact vx_ret (W.lret (v := (qh_letters cf r_1).toInt64) hx hb hr (fun t ht hW => ⟨⟨(qh_letters cf r_1).toInt64, (), rfl, ⟨hw_2.1, by have zz := hw_2.2; subst_vars; try (first | rw [if_pos c_3] | rw [if_neg c_3]); try rfl⟩, by rw [ht]; exact hP9, va_K.moved hW.alike hK9, hD9⟩, hS.F ht⟩) hS.2.2 dX12_number_50)
set_option maxHeartbeats 4000000 in
set_option maxRecDepth 100000 in
/-- letter(session, row, column, i) -/
theorem c_X12_letter (l : Launch) (hl9 : l.stackTraces = false) (dC : Nat → ClassId) (dI : Nat → Nat → Nat) (sz : Nat) (h0 ss tb pa ck ev pn lk jo orw nrw : Nat) (g10 g11 g12 g13 g14 g15 : Int32) (a0 tx cd ca pl : Nat) (f4 f5 f6 f7 f8 f9 f10 f11 f12 f13 f14 f15 : Int32) (p0 p1 p2 p3 : Int32) (cSs : ClassId) (sf : Nat → Option Nat) (hf : ¬ p0 < 0 → p0 < 4 → sf p0.toNatClampNeg = some a0) (cJ : ClassId) (cf : Nat → Int64) (hin : ((¬ p0 < 0 ∧ p0 < 4) ∧ (¬ p1 < 0 ∧ ¬ f8 ≤ p1) ∧ (¬ p2 < 0 ∧ p2 < f9)) → vp_in ((p1 * f9 + p2) * 3) 10800 ∧ vp_in ((p1 * f9 + p2) * 3 + 1) 10800 ∧ vp_in ((p1 * f9 + p2) * 3 + 2) 10800) (sS sC : Nat) : vx_Met l yX12_letter wsX12_letter ({ frames := 8, cells := 2, slots := 12, locals := 160 }) (va_Pc [.ref h0, .int p0, .int p1, .int p2, .int p3] (fun U => U.heap.size = sz ∧ va_P (dC, dI) vwCl [(h0, .inr (17, [.ref ss, .ref tb, .ref pa, .ref ck, .ref ev, .ref pn, .ref lk, .ref jo, .ref orw, .ref nrw, .int g10, .int g11, .int g12, .int g13, .int g14, .int g15])), (ss, .inl (cSs, 4, .inr (.inr (.inr (.inr sf))))), (a0, .inr (15, [.ref tx, .ref cd, .ref ca, .ref pl, .int f4, .int f5, .int f6, .int f7, .int f8, .int f9, .int f10, .int f11, .int f12, .int f13, .int f14, .int f15])), (ca, .inl (cJ, 10800, .inr (.inl cf)))] U.heap ∧ va_K (dC, dI) vwCl [(cSs, .object RX10), (cJ, .long)] U ∧ va_D (fun _ => True) [(h0, .inr (17, [.ref ss, .ref tb, .ref pa, .ref ck, .ref ev, .ref pn, .ref lk, .ref jo, .ref orw, .ref nrw, .int g10, .int g11, .int g12, .int g13, .int g14, .int g15])), (ss, .inl (cSs, 4, .inr (.inr (.inr (.inr sf))))), (a0, .inr (15, [.ref tx, .ref cd, .ref ca, .ref pl, .int f4, .int f5, .int f6, .int f7, .int f8, .int f9, .int f10, .int f11, .int f12, .int f13, .int f14, .int f15])), (ca, .inl (cJ, 10800, .inr (.inl cf)))] ∧ vk_R RX12 316 "no such session" sS U ∧ vk_R RX12 324 "no such row or column" sC U ∧ qh_E "java/lang/IndexOutOfBoundsException" "(Ljava/lang/String;)V" U ∧ qh_T (va_A [(h0, .inr (17, [.ref ss, .ref tb, .ref pa, .ref ck, .ref ev, .ref pn, .ref lk, .ref jo, .ref orw, .ref nrw, .int g10, .int g11, .int g12, .int g13, .int g14, .int g15])), (ss, .inl (cSs, 4, .inr (.inr (.inr (.inr sf))))), (a0, .inr (15, [.ref tx, .ref cd, .ref ca, .ref pl, .int f4, .int f5, .int f6, .int f7, .int f8, .int f9, .int f10, .int f11, .int f12, .int f13, .int f14, .int f15])), (ca, .inl (cJ, 10800, .inr (.inl cf)))] sz) U U.heap)) (va_Qi (fun (r : Int32) (_ : Unit) => ((¬ p0 < 0 ∧ p0 < 4) ∧ (¬ p1 < 0 ∧ ¬ f8 ≤ p1) ∧ (¬ p2 < 0 ∧ p2 < f9)) ∧ r = (if lg_cmp (cf ((p1 * f9 + p2) * 3).toNatClampNeg) 3 = 0 then qh_letter cf ((p1 * f9 + p2) * 3) p3 else 0)) (fun (_ : Unit) (t : State) => va_P (dC, dI) vwCl [(h0, .inr (17, [.ref ss, .ref tb, .ref pa, .ref ck, .ref ev, .ref pn, .ref lk, .ref jo, .ref orw, .ref nrw, .int g10, .int g11, .int g12, .int g13, .int g14, .int g15])), (ss, .inl (cSs, 4, .inr (.inr (.inr (.inr sf))))), (a0, .inr (15, [.ref tx, .ref cd, .ref ca, .ref pl, .int f4, .int f5, .int f6, .int f7, .int f8, .int f9, .int f10, .int f11, .int f12, .int f13, .int f14, .int f15])), (ca, .inl (cJ, 10800, .inr (.inl cf)))] t.heap ∧ va_K (dC, dI) vwCl [(cSs, .object RX10), (cJ, .long)] t ∧ va_D (va_A [(h0, .inr (17, [.ref ss, .ref tb, .ref pa, .ref ck, .ref ev, .ref pn, .ref lk, .ref jo, .ref orw, .ref nrw, .int g10, .int g11, .int g12, .int g13, .int g14, .int g15])), (ss, .inl (cSs, 4, .inr (.inr (.inr (.inr sf))))), (a0, .inr (15, [.ref tx, .ref cd, .ref ca, .ref pl, .int f4, .int f5, .int f6, .int f7, .int f8, .int f9, .int f10, .int f11, .int f12, .int f13, .int f14, .int f15])), (ca, .inl (cJ, 10800, .inr (.inl cf)))] sz) [(h0, .inr (17, [.ref ss, .ref tb, .ref pa, .ref ck, .ref ev, .ref pn, .ref lk, .ref jo, .ref orw, .ref nrw, .int g10, .int g11, .int g12, .int g13, .int g14, .int g15])), (ss, .inl (cSs, 4, .inr (.inr (.inr (.inr sf))))), (a0, .inr (15, [.ref tx, .ref cd, .ref ca, .ref pl, .int f4, .int f5, .int f6, .int f7, .int f8, .int f9, .int f10, .int f11, .int f12, .int f13, .int f14, .int f15])), (ca, .inl (cJ, 10800, .inr (.inl cf)))]) (va_A [(h0, .inr (17, [.ref ss, .ref tb, .ref pa, .ref ck, .ref ev, .ref pn, .ref lk, .ref jo, .ref orw, .ref nrw, .int g10, .int g11, .int g12, .int g13, .int g14, .int g15])), (ss, .inl (cSs, 4, .inr (.inr (.inr (.inr sf))))), (a0, .inr (15, [.ref tx, .ref cd, .ref ca, .ref pl, .int f4, .int f5, .int f6, .int f7, .int f8, .int f9, .int f10, .int f11, .int f12, .int f13, .int f14, .int f15])), (ca, .inl (cJ, 10800, .inr (.inl cf)))] sz)) (vx_X (fun (_ : Unit) => ¬ ((¬ p0 < 0 ∧ p0 < 4) ∧ (¬ p1 < 0 ∧ ¬ f8 ≤ p1) ∧ (¬ p2 < 0 ∧ p2 < f9))) (fun E (_ : Unit) t => E = "java/lang/IndexOutOfBoundsException" ∧ va_P (dC, dI) vwCl [(h0, .inr (17, [.ref ss, .ref tb, .ref pa, .ref ck, .ref ev, .ref pn, .ref lk, .ref jo, .ref orw, .ref nrw, .int g10, .int g11, .int g12, .int g13, .int g14, .int g15])), (ss, .inl (cSs, 4, .inr (.inr (.inr (.inr sf))))), (a0, .inr (15, [.ref tx, .ref cd, .ref ca, .ref pl, .int f4, .int f5, .int f6, .int f7, .int f8, .int f9, .int f10, .int f11, .int f12, .int f13, .int f14, .int f15])), (ca, .inl (cJ, 10800, .inr (.inl cf)))] t.heap ∧ va_K (dC, dI) vwCl [(cSs, .object RX10), (cJ, .long)] t ∧ va_D (va_A [(h0, .inr (17, [.ref ss, .ref tb, .ref pa, .ref ck, .ref ev, .ref pn, .ref lk, .ref jo, .ref orw, .ref nrw, .int g10, .int g11, .int g12, .int g13, .int g14, .int g15])), (ss, .inl (cSs, 4, .inr (.inr (.inr (.inr sf))))), (a0, .inr (15, [.ref tx, .ref cd, .ref ca, .ref pl, .int f4, .int f5, .int f6, .int f7, .int f8, .int f9, .int f10, .int f11, .int f12, .int f13, .int f14, .int f15])), (ca, .inl (cJ, 10800, .inr (.inl cf)))] sz) [(h0, .inr (17, [.ref ss, .ref tb, .ref pa, .ref ck, .ref ev, .ref pn, .ref lk, .ref jo, .ref orw, .ref nrw, .int g10, .int g11, .int g12, .int g13, .int g14, .int g15])), (ss, .inl (cSs, 4, .inr (.inr (.inr (.inr sf))))), (a0, .inr (15, [.ref tx, .ref cd, .ref ca, .ref pl, .int f4, .int f5, .int f6, .int f7, .int f8, .int f9, .int f10, .int f11, .int f12, .int f13, .int f14, .int f15])), (ca, .inl (cJ, 10800, .inr (.inl cf)))]) (va_A [(h0, .inr (17, [.ref ss, .ref tb, .ref pa, .ref ck, .ref ev, .ref pn, .ref lk, .ref jo, .ref orw, .ref nrw, .int g10, .int g11, .int g12, .int g13, .int g14, .int g15])), (ss, .inl (cSs, 4, .inr (.inr (.inr (.inr sf))))), (a0, .inr (15, [.ref tx, .ref cd, .ref ca, .ref pl, .int f4, .int f5, .int f6, .int f7, .int f8, .int f9, .int f10, .int f11, .int f12, .int f13, .int f14, .int f15])), (ca, .inl (cJ, 10800, .inr (.inl cf)))] sz)) 2 12 (va_A [(h0, .inr (17, [.ref ss, .ref tb, .ref pa, .ref ck, .ref ev, .ref pn, .ref lk, .ref jo, .ref orw, .ref nrw, .int g10, .int g11, .int g12, .int g13, .int g14, .int g15])), (ss, .inl (cSs, 4, .inr (.inr (.inr (.inr sf))))), (a0, .inr (15, [.ref tx, .ref cd, .ref ca, .ref pl, .int f4, .int f5, .int f6, .int f7, .int f8, .int f9, .int f10, .int f11, .int f12, .int f13, .int f14, .int f15])), (ca, .inl (cJ, 10800, .inr (.inl cf)))] sz) := by
  refine vx_ofW (cc := cX12_letter) (maxL := 7) (ret := (some .int)) (by decide) rfl ?_
  intro p e s m args below meth c s₁ B hml hEx hv
  obtain ⟨rfl, hsz, hP, hK, hD0, hE0, hE1, hE2, hE3⟩ := hv
  have hx := B.exec
  have hb := B.bytes
  have hr := B.returns
  have hts := atoms_spec (ws := wsX12_letter) B.pre
  have hown : s.vm.findClass RX12 = some m.cls := findClass_of_methodNamed B.named
  have hlocks := B.notSynchronized
  subst hsz
  have hD := hD0.self (sz := s.heap.size)
  generalize hAe : va_A [(h0, .inr (17, [.ref ss, .ref tb, .ref pa, .ref ck, .ref ev, .ref pn, .ref lk, .ref jo, .ref orw, .ref nrw, .int g10, .int g11, .int g12, .int g13, .int g14, .int g15])), (ss, .inl (cSs, 4, .inr (.inr (.inr (.inr sf))))), (a0, .inr (15, [.ref tx, .ref cd, .ref ca, .ref pl, .int f4, .int f5, .int f6, .int f7, .int f8, .int f9, .int f10, .int f11, .int f12, .int f13, .int f14, .int f15])), (ca, .inl (cJ, 10800, .inr (.inl cf)))] s.heap.size = A at hD hE3 ⊢
  have hA : ∀ q : Nat, s.heap.size ≤ q → A q := fun q h => by rw [← hAe]; exact Or.inr h
  have hS : va_S A s.heap s.heap [] := va_S.rf
  have hP : va_P (dC, dI) vwCl [(h0, .inr (17, [.ref ss, .ref tb, .ref pa, .ref ck, .ref ev, .ref pn, .ref lk, .ref jo, .ref orw, .ref nrw, .int g10, .int g11, .int g12, .int g13, .int g14, .int g15])), (ss, .inl (cSs, 4, .inr (.inr (.inr (.inr sf))))), (a0, .inr (15, [.ref tx, .ref cd, .ref ca, .ref pl, .int f4, .int f5, .int f6, .int f7, .int f8, .int f9, .int f10, .int f11, .int f12, .int f13, .int f14, .int f15])), (ca, .inl (cJ, 10800, .inr (.inl cf)))] s.heap := hP
  have hl := lv_entry ([.ref h0, .int p0, .int p1, .int p2, .int p3]) (n := 7) (Nat.le_of_ble_eq_true rfl)
  rw [lg_entry_eq]
  generalize (lg_sl ([.ref h0, .int p0, .int p1, .int p2, .int p3]) ++ List.replicate (7 - (lg_sl ([.ref h0, .int p0, .int p1, .int p2, .int p3])).length) Slot.unset).toArray = ls at hl ⊢
  have hl : lv_has ls 7 [(0, .ref h0), (1, .int p0), (2, .int p1), (3, .int p2), (4, .int p3)] := hl
  refine lv_aload_n hx hb dX12_letter_0 rfl (lv_at hl 0 rfl) ?_
  refine lv_iload_n hx hb dX12_letter_1 rfl (lv_at hl 1 rfl) ?_
  refine lv_iload_n hx hb dX12_letter_2 rfl (lv_at hl 2 rfl) ?_
  refine lv_iload_n hx hb dX12_letter_3 rfl (lv_at hl 3 rfl) ?_
  have hPc := hP.sub (ws' := [(h0, .inr (17, [.ref ss, .ref tb, .ref pa, .ref ck, .ref ev, .ref pn, .ref lk, .ref jo, .ref orw, .ref nrw, .int g10, .int g11, .int g12, .int g13, .int g14, .int g15])), (ss, .inl (cSs, 4, .inr (.inr (.inr (.inr sf))))), (a0, .inr (15, [.ref tx, .ref cd, .ref ca, .ref pl, .int f4, .int f5, .int f6, .int f7, .int f8, .int f9, .int f10, .int f11, .int f12, .int f13, .int f14, .int f15]))]) [0, 1, 2] rfl
  have hDc := hD.sub (ws' := [(h0, .inr (17, [.ref ss, .ref tb, .ref pa, .ref ck, .ref ev, .ref pn, .ref lk, .ref jo, .ref orw, .ref nrw, .int g10, .int g11, .int g12, .int g13, .int g14, .int g15])), (ss, .inl (cSs, 4, .inr (.inr (.inr (.inr sf))))), (a0, .inr (15, [.ref tx, .ref cd, .ref ca, .ref pl, .int f4, .int f5, .int f6, .int f7, .int f8, .int f9, .int f10, .int f11, .int f12, .int f13, .int f14, .int f15]))]) [0, 1, 2] (by decide) rfl
  have hKc := hK.sub (tys' := [(cSs, .object RX10)]) [0] rfl
  have hFc := va_free (wc := [(h0, .inr (17, [.ref ss, .ref tb, .ref pa, .ref ck, .ref ev, .ref pn, .ref lk, .ref jo, .ref orw, .ref nrw, .int g10, .int g11, .int g12, .int g13, .int g14, .int g15])), (ss, .inl (cSs, 4, .inr (.inr (.inr (.inr sf))))), (a0, .inr (15, [.ref tx, .ref cd, .ref ca, .ref pl, .int f4, .int f5, .int f6, .int f7, .int f8, .int f9, .int f10, .int f11, .int f12, .int f13, .int f14, .int f15]))]) hD hS hA [0, 1, 2] rfl
  refine vx_calli (vx_runV (As := [.int p0, .int p1, .int p2]) (rest := []) ⟨hx, hb, hml, hown, hts⟩ (c_X12_cellOf l hl9 dC dI s.heap.size h0 ss tb pa ck ev pn lk jo orw nrw g10 g11 g12 g13 g14 g15 a0 tx cd ca pl f4 f5 f6 f7 f8 f9 f10 f11 f12 f13 f14 f15 p0 p1 p2 cSs sf hf sS sC) (cwV 3 hts gX12_letter_X12_cellOf rfl rfl rfl (by decide +kernel) ⟨Nat.le_of_ble_eq_true rfl, Nat.le_of_ble_eq_true rfl⟩) ⟨fun a U g mk q => by obtain ⟨q0, q1, qP, qK, qD, qE0, qE1, qE2, qE3⟩ := q; exact ⟨q0, q1, qP, va_K.moved (u := U) (U := U.calling g mk a) (Vm.Alike.refl U.vm) qK, qD, vk_R.same rfl qE0, vk_R.same rfl qE1, qh_E.same rfl qE2, qh_T.moved (u := U) (U := U.calling g mk a) (Vm.Alike.refl U.vm) qE3⟩, va_recv hKc hPc (ci := 17) (q0 := 0) rfl rfl, fun U hU hW => ⟨rfl, by rw [hU], by rw [hU]; exact hPc, va_K.moved hW.alike hKc, hDc.weaken (fun _ _ _ _ => trivial), vk_R.warm hW hE0, vk_R.warm hW hE1, qh_E.warm hW hE2, by rw [hU]; exact qh_T.moved hW.alike (qh_T.narrow (qh_T.kept hE3 hS.2.1) (fun q h => hFc q h))⟩⟩ rfl rfl hl.1 rfl (lv_room (Nat.le_of_ble_eq_true rfl)) dX12_letter_4 ⟨Nat.le_of_ble_eq_true rfl, Nat.le_of_ble_eq_true rfl⟩) hS (fun q _ h => hFc q h) hFc (fun q _ h => hFc q h) (fun E ce q9 u t H1 locs ht hvm hw hB hz1 hk1 hS hce hcv hcl => ?_) (fun r_1 u t H1 locs ht hvm hw hB hz1 hk1 hS => ?_)
  · skip
    obtain ⟨rfl, hP1, hK1, hD1⟩ := hB
    rw [ht] at hP1
    obtain ⟨hP, hD⟩ := va_join (wr := [(ca, .inl (cJ, 10800, .inr (.inl cf)))]) (w1 := [(h0, .inr (17, [.ref ss, .ref tb, .ref pa, .ref ck, .ref ev, .ref pn, .ref lk, .ref jo, .ref orw, .ref nrw, .int g10, .int g11, .int g12, .int g13, .int g14, .int g15])), (ss, .inl (cSs, 4, .inr (.inr (.inr (.inr sf))))), (a0, .inr (15, [.ref tx, .ref cd, .ref ca, .ref pl, .int f4, .int f5, .int f6, .int f7, .int f8, .int f9, .int f10, .int f11, .int f12, .int f13, .int f14, .int f15]))]) hP hD [0, 1, 2] [3] rfl rfl (by decide) (by decide) hk1 hFc hP1 hD1
    generalize H1 = H at hP hS hce ⊢
    have hP := hP.sub (ws' := [(h0, .inr (17, [.ref ss, .ref tb, .ref pa, .ref ck, .ref ev, .ref pn, .ref lk, .ref jo, .ref orw, .ref nrw, .int g10, .int g11, .int g12, .int g13, .int g14, .int g15])), (ss, .inl (cSs, 4, .inr (.inr (.inr (.inr sf))))), (a0, .inr (15, [.ref tx, .ref cd, .ref ca, .ref pl, .int f4, .int f5, .int f6, .int f7, .int f8, .int f9, .int f10, .int f11, .int f12, .int f13, .int f14, .int f15])), (ca, .inl (cJ, 10800, .inr (.inl cf)))]) [1, 2, 3, 0] rfl
    have hD := hD.sub (ws' := [(h0, .inr (17, [.ref ss, .ref tb, .ref pa, .ref ck, .ref ev, .ref pn, .ref lk, .ref jo, .ref orw, .ref nrw, .int g10, .int g11, .int g12, .int g13, .int g14, .int g15])), (ss, .inl (cSs, 4, .inr (.inr (.inr (.inr sf))))), (a0, .inr (15, [.ref tx, .ref cd, .ref ca, .ref pl, .int f4, .int f5, .int f6, .int f7, .int f8, .int f9, .int f10, .int f11, .int f12, .int f13, .int f14, .int f15])), (ca, .inl (cJ, 10800, .inr (.inl cf)))]) [1, 2, 3, 0] (by decide) rfl
    have hP9 := hP.sub (ws' := [(h0, .inr (17, [.ref ss, .ref tb, .ref pa, .ref ck, .ref ev, .ref pn, .ref lk, .ref jo, .ref orw, .ref nrw, .int g10, .int g11, .int g12, .int g13, .int g14, .int g15])), (ss, .inl (cSs, 4, .inr (.inr (.inr (.inr sf))))), (a0, .inr (15, [.ref tx, .ref cd, .ref ca, .ref pl, .int f4, .int f5, .int f6, .int f7, .int f8, .int f9, .int f10, .int f11, .int f12, .int f13, .int f14, .int f15])), (ca, .inl (cJ, 10800, .inr (.inl cf)))]) [0, 1, 2, 3] rfl
    have hD9 := hD.sub (ws' := [(h0, .inr (17, [.ref ss, .ref tb, .ref pa, .ref ck, .ref ev, .ref pn, .ref lk, .ref jo, .ref orw, .ref nrw, .int g10, .int g11, .int g12, .int g13, .int g14, .int g15])), (ss, .inl (cSs, 4, .inr (.inr (.inr (.inr sf))))), (a0, .inr (15, [.ref tx, .ref cd, .ref ca, .ref pl, .int f4, .int f5, .int f6, .int f7, .int f8, .int f9, .int f10, .int f11, .int f12, .int f13, .int f14, .int f15])), (ca, .inl (cJ, 10800, .inr (.inl cf)))]) [0, 1, 2, 3] (by decide) rfl
    have hK9 := hK.sub (tys' := [(cSs, .object RX10), (cJ, .long)]) [0, 1] rfl
    exact vx_out (E := "java/lang/IndexOutOfBoundsException") (fun x hx => (hEx x hx).elim) hlocks hce hcv hcl (fun t ht ha => ⟨(), hw, ⟨rfl, by rw [ht]; exact hP9, va_K.moved ha hK9, hD9⟩, hS.F ht⟩) hS.2.2 (Nat.le_of_ble_eq_true rfl) (Nat.le_of_ble_eq_true rfl)
  obtain ⟨hP1, hK1, hD1⟩ := hB
  rw [ht] at hP1
  obtain ⟨hP, hD⟩ := va_join (wr := [(ca, .inl (cJ, 10800, .inr (.inl cf)))]) (w1 := [(h0, .inr (17, [.ref ss, .ref tb, .ref pa, .ref ck, .ref ev, .ref pn, .ref lk, .ref jo, .ref orw, .ref nrw, .int g10, .int g11, .int g12, .int g13, .int g14, .int g15])), (ss, .inl (cSs, 4, .inr (.inr (.inr (.inr sf))))), (a0, .inr (15, [.ref tx, .ref cd, .ref ca, .ref pl, .int f4, .int f5, .int f6, .int f7, .int f8, .int f9, .int f10, .int f11, .int f12, .int f13, .int f14, .int f15]))]) hP hD [0, 1, 2] [3] rfl rfl (by decide) (by decide) hk1 hFc hP1 hD1
  generalize H1 = H at hP hS ⊢
  have hP := hP.sub (ws' := [(h0, .inr (17, [.ref ss, .ref tb, .ref pa, .ref ck, .ref ev, .ref pn, .ref lk, .ref jo, .ref orw, .ref nrw, .int g10, .int g11, .int g12, .int g13, .int g14, .int g15])), (ss, .inl (cSs, 4, .inr (.inr (.inr (.inr sf))))), (a0, .inr (15, [.ref tx, .ref cd, .ref ca, .ref pl, .int f4, .int f5, .int f6, .int f7, .int f8, .int f9, .int f10, .int f11, .int f12, .int f13, .int f14, .int f15])), (ca, .inl (cJ, 10800, .inr (.inl cf)))]) [1, 2, 3, 0] rfl
  have hD := hD.sub (ws' := [(h0, .inr (17, [.ref ss, .ref tb, .ref pa, .ref ck, .ref ev, .ref pn, .ref lk, .ref jo, .ref orw, .ref nrw, .int g10, .int g11, .int g12, .int g13, .int g14, .int g15])), (ss, .inl (cSs, 4, .inr (.inr (.inr (.inr sf))))), (a0, .inr (15, [.ref tx, .ref cd, .ref ca, .ref pl, .int f4, .int f5, .int f6, .int f7, .int f8, .int f9, .int f10, .int f11, .int f12, .int f13, .int f14, .int f15])), (ca, .inl (cJ, 10800, .inr (.inl cf)))]) [1, 2, 3, 0] (by decide) rfl
  have hw_2 := hw
  refine lv_istore (lv' := [(5, .int r_1), (0, .ref h0), (1, .int p0), (2, .int p1), (3, .int p2), (4, .int p3)]) hx hb dX12_letter_7 hl (by decide) rfl (fun ls hl => ?_)
  refine lv_aload_n hx hb dX12_letter_9 rfl (lv_at hl 1 rfl) ?_
  refine va_get (D := (dC, dI)) (ci := 17) (v := .ref ss) (C := RX12) (T := TX12) (N := 16) hx hb hts (by decide +kernel) hown hK hP 0 rfl rfl 0 (by decide) (hts (.fieldLink RX12 11 "QueryHall" "sessions" "[LQueryHall$Session;") (by decide +kernel)) (fun _ h9 => h9) rfl dX12_letter_10 ?_
  refine lv_iload_n hx hb dX12_letter_13 rfl (lv_at hl 2 rfl) ?_
  refine va_aldq hx hb hK hP 1 0 rfl rfl (qh_in (y := 4) rfl hw_2.1.1.1 hw_2.1.1.2) dX12_letter_14 ?_
  refine W.eq (g2 := F0 m 15 ls [.ref a0]) (by rw [hf hw_2.1.1.1 hw_2.1.1.2]; rfl) ?_
  refine va_get (D := (dC, dI)) (ci := 15) (v := .ref ca) (C := RX10) (T := TX10) (N := 16) hx hb hts (by decide +kernel) hown hK hP 2 rfl rfl 2 (by decide) (hts (.fieldLink RX12 183 "QueryHall$Session" "cells" "[J") (by decide +kernel)) (fun _ h9 => h9) rfl dX12_letter_15 ?_
  refine lv_astore (lv' := [(6, .ref ca), (5, .int r_1), (0, .ref h0), (1, .int p0), (2, .int p1), (3, .int p2), (4, .int p3)]) hx hb dX12_letter_18 hl (by decide) rfl (fun ls hl => ?_)
  refine lv_aload hx hb dX12_letter_20 (lv_at hl 0 rfl) ?_
  refine lv_iload hx hb dX12_letter_22 (lv_at hl 1 rfl) ?_
  refine va_lald hx hb hK hP 3 1 rfl rfl (by rw [hw_2.2]; exact (hin hw_2.1).1) dX12_letter_24 ?_
  refine lv_ldc2 (own := RX12) (v := 3) hx hb hown (hts (.constantLong RX12 186 (3)) (by decide +kernel)) dX12_letter_25 ?_
  refine W.lcmp hx hb dX12_letter_28 ?_
  refine lv_if_ne (tgt := 44) hx hb dX12_letter_29 (by decide) (fun c_3 => ?_) (fun c_3 => ?_)
  · skip
    refine lv_iconst (v := 0) hx hb dX12_letter_44 (by decide) ?_
    have hP9 := hP.sub (ws' := [(h0, .inr (17, [.ref ss, .ref tb, .ref pa, .ref ck, .ref ev, .ref pn, .ref lk, .ref jo, .ref orw, .ref nrw, .int g10, .int g11, .int g12, .int g13, .int g14, .int g15])), (ss, .inl (cSs, 4, .inr (.inr (.inr (.inr sf))))), (a0, .inr (15, [.ref tx, .ref cd, .ref ca, .ref pl, .int f4, .int f5, .int f6, .int f7, .int f8, .int f9, .int f10, .int f11, .int f12, .int f13, .int f14, .int f15])), (ca, .inl (cJ, 10800, .inr (.inl cf)))]) [0, 1, 2, 3] rfl
    have hD9 := hD.sub (ws' := [(h0, .inr (17, [.ref ss, .ref tb, .ref pa, .ref ck, .ref ev, .ref pn, .ref lk, .ref jo, .ref orw, .ref nrw, .int g10, .int g11, .int g12, .int g13, .int g14, .int g15])), (ss, .inl (cSs, 4, .inr (.inr (.inr (.inr sf))))), (a0, .inr (15, [.ref tx, .ref cd, .ref ca, .ref pl, .int f4, .int f5, .int f6, .int f7, .int f8, .int f9, .int f10, .int f11, .int f12, .int f13, .int f14, .int f15])), (ca, .inl (cJ, 10800, .inr (.inl cf)))]) [0, 1, 2, 3] (by decide) rfl
    have hK9 := hK.sub (tys' := [(cSs, .object RX10), (cJ, .long)]) [0, 1] rfl
    refine W.widen (k := 2) (n := 12) (Nat.le_of_ble_eq_true rfl) (Nat.le_of_ble_eq_true rfl) ?_
    exact vx_ret (W.iret (v := 0) hx hb hr (fun t ht hW => ⟨⟨0, (), rfl, ⟨hw_2.1, by have zz := hw_2.2; subst_vars; try (first | rw [if_pos c_3] | rw [if_neg c_3]); try rfl⟩, by rw [ht]; exact hP9, va_K.moved hW.alike hK9, hD9⟩, hS.F ht⟩) hS.2.2 dX12_letter_45)
  · skip
    refine lv_aload hx hb dX12_letter_32 (lv_at hl 0 rfl) ?_
    refine lv_iload hx hb dX12_letter_34 (lv_at hl 1 rfl) ?_
    refine lv_iload hx hb dX12_letter_36 (lv_at hl 6 rfl) ?_
    have hPc := hP.sub (ws' := [(ca, .inl (cJ, 10800, .inr (.inl cf)))]) [3] rfl
    have hDc := hD.sub (ws' := [(ca, .inl (cJ, 10800, .inr (.inl cf)))]) [3] (by decide) rfl
    have hKc := hK.sub (tys' := [(cJ, .long)]) [1] rfl
    have hFc := va_free (wc := [(ca, .inl (cJ, 10800, .inr (.inl cf)))]) hD hS hA [3] rfl
    refine va_calli (va_runS (As := [.ref ca, .int r_1, .int p3]) (rest := []) ⟨hx, hb, hml, hown, hts⟩ (c_X11_letterOf l dC dI H.size cJ ca 10800 cf r_1 p3 ((by rw [hw_2.2]; exact ⟨(hin hw_2.1).2.1, (hin hw_2.1).2.2⟩))) (va_cwS 3 hts gX12_letter_X11_letterOf rfl rfl rfl (by decide +kernel) ⟨Nat.le_of_ble_eq_true rfl, Nat.le_of_ble_eq_true rfl⟩) ⟨fun a U g mk q => by obtain ⟨q0, q1, qP, qK, qD⟩ := q; exact ⟨q0, q1, qP, va_K.moved (u := U) (U := U.calling g mk a) (Vm.Alike.refl U.vm) qK, qD⟩, fun U hU hW => ⟨rfl, by rw [hU], by rw [hU]; exact hPc, va_K.moved hW.alike hKc, hDc.weaken (fun _ _ _ _ => trivial)⟩⟩ rfl rfl hl.1 rfl (lv_room (Nat.le_of_ble_eq_true rfl)) dX12_letter_38 ⟨Nat.le_of_ble_eq_true rfl, Nat.le_of_ble_eq_true rfl⟩) hS (fun q _ h => hFc q h) hFc (fun r_4 u t H1 locs ht hvm hw hB hz1 hk1 hS => ?_)
    obtain ⟨hP1, hK1, hD1⟩ := hB
    rw [ht] at hP1
    obtain ⟨hP, hD⟩ := va_join (wr := [(h0, .inr (17, [.ref ss, .ref tb, .ref pa, .ref ck, .ref ev, .ref pn, .ref lk, .ref jo, .ref orw, .ref nrw, .int g10, .int g11, .int g12, .int g13, .int g14, .int g15])), (ss, .inl (cSs, 4, .inr (.inr (.inr (.inr sf))))), (a0, .inr (15, [.ref tx, .ref cd, .ref ca, .ref pl, .int f4, .int f5, .int f6, .int f7, .int f8, .int f9, .int f10, .int f11, .int f12, .int f13, .int f14, .int f15]))]) (w1 := [(ca, .inl (cJ, 10800, .inr (.inl cf)))]) hP hD [3] [0, 1, 2] rfl rfl (by decide) (by decide) hk1 hFc hP1 hD1
    generalize H1 = H at hP hS ⊢
    have hP := hP.sub (ws' := [(h0, .inr (17, [.ref ss, .ref tb, .ref pa, .ref ck, .ref ev, .ref pn, .ref lk, .ref jo, .ref orw, .ref nrw, .int g10, .int g11, .int g12, .int g13, .int g14, .int g15])), (ss, .inl (cSs, 4, .inr (.inr (.inr (.inr sf))))), (a0, .inr (15, [.ref tx, .ref cd, .ref ca, .ref pl, .int f4, .int f5, .int f6, .int f7, .int f8, .int f9, .int f10, .int f11, .int f12, .int f13, .int f14, .int f15])), (ca, .inl (cJ, 10800, .inr (.inl cf)))]) [0, 1, 2, 3] rfl
    have hD := hD.sub (ws' := [(h0, .inr (17, [.ref ss, .ref tb, .ref pa, .ref ck, .ref ev, .ref pn, .ref lk, .ref jo, .ref orw, .ref nrw, .int g10, .int g11, .int g12, .int g13, .int g14, .int g15])), (ss, .inl (cSs, 4, .inr (.inr (.inr (.inr sf))))), (a0, .inr (15, [.ref tx, .ref cd, .ref ca, .ref pl, .int f4, .int f5, .int f6, .int f7, .int f8, .int f9, .int f10, .int f11, .int f12, .int f13, .int f14, .int f15])), (ca, .inl (cJ, 10800, .inr (.inl cf)))]) [0, 1, 2, 3] (by decide) rfl
    have hw : r_4 = qh_letter cf r_1 p3 := hw
    subst hw
    refine lv_goto (tgt := 45) hx hb dX12_letter_41 (by decide) ?_
    have hP9 := hP.sub (ws' := [(h0, .inr (17, [.ref ss, .ref tb, .ref pa, .ref ck, .ref ev, .ref pn, .ref lk, .ref jo, .ref orw, .ref nrw, .int g10, .int g11, .int g12, .int g13, .int g14, .int g15])), (ss, .inl (cSs, 4, .inr (.inr (.inr (.inr sf))))), (a0, .inr (15, [.ref tx, .ref cd, .ref ca, .ref pl, .int f4, .int f5, .int f6, .int f7, .int f8, .int f9, .int f10, .int f11, .int f12, .int f13, .int f14, .int f15])), (ca, .inl (cJ, 10800, .inr (.inl cf)))]) [0, 1, 2, 3] rfl
    have hD9 := hD.sub (ws' := [(h0, .inr (17, [.ref ss, .ref tb, .ref pa, .ref ck, .ref ev, .ref pn, .ref lk, .ref jo, .ref orw, .ref nrw, .int g10, .int g11, .int g12, .int g13, .int g14, .int g15])), (ss, .inl (cSs, 4, .inr (.inr (.inr (.inr sf))))), (a0, .inr (15, [.ref tx, .ref cd, .ref ca, .ref pl, .int f4, .int f5, .int f6, .int f7, .int f8, .int f9, .int f10, .int f11, .int f12, .int f13, .int f14, .int f15])), (ca, .inl (cJ, 10800, .inr (.inl cf)))]) [0, 1, 2, 3] (by decide) rfl
    have hK9 := hK.sub (tys' := [(cSs, .object RX10), (cJ, .long)]) [0, 1] rfl
    refine W.widen (k := 2) (n := 12) (Nat.le_of_ble_eq_true rfl) (Nat.le_of_ble_eq_true rfl) ?_
    exact vx_ret (W.iret (v := qh_letter cf r_1 p3) hx hb hr (fun t ht hW => ⟨⟨qh_letter cf r_1 p3, (), rfl, ⟨hw_2.1, by have zz := hw_2.2; subst_vars; try (first | rw [if_pos c_3] | rw [if_neg c_3]); try rfl⟩, by rw [ht]; exact hP9, va_K.moved hW.alike hK9, hD9⟩, hS.F ht⟩) hS.2.2 dX12_letter_45)
set_option maxHeartbeats 4000000 in
set_option maxRecDepth 100000 in
/-- Locks.waiters() -/
theorem c_X4_waiters (l : Launch) (dC : Nat → ClassId) (dI : Nat → Nat → Nat) (sz : Nat) (lk ps sp wa rd at_ am ak ac an lp : Nat) (rc : Int32) (cPl : ClassId) (wf : Nat → Option Nat) : Met l yX4_waiters wsX4_waiters ({ frames := 0, cells := 0, slots := 0, locals := 0 }) (va_Pc [.ref lk] (fun U => U.heap.size = sz ∧ va_P (dC, dI) vwCl [(lk, .inr (9, [.ref ps, .ref sp, .ref wa, .ref rd, .int rc, .ref at_, .ref am, .ref ak, .ref ac, .ref an, .ref lp])), (wa, .inl (cPl, 4, .inr (.inr (.inr (.inr wf)))))] U.heap ∧ va_K (dC, dI) vwCl [(cPl, .object RX7)] U ∧ va_D (fun _ => True) [(lk, .inr (9, [.ref ps, .ref sp, .ref wa, .ref rd, .int rc, .ref at_, .ref am, .ref ak, .ref ac, .ref an, .ref lp])), (wa, .inl (cPl, 4, .inr (.inr (.inr (.inr wf)))))])) (va_Qi (fun (r : Int32) (_ : Unit) => r = 0 + qh_nn (wf 0) + qh_nn (wf 1) + qh_nn (wf 2) + qh_nn (wf 3)) (fun (_ : Unit) (t : State) => va_P (dC, dI) vwCl [(lk, .inr (9, [.ref ps, .ref sp, .ref wa, .ref rd, .int rc, .ref at_, .ref am, .ref ak, .ref ac, .ref an, .ref lp])), (wa, .inl (cPl, 4, .inr (.inr (.inr (.inr wf)))))] t.heap ∧ va_K (dC, dI) vwCl [(cPl, .object RX7)] t ∧ va_D (va_A [(lk, .inr (9, [.ref ps, .ref sp, .ref wa, .ref rd, .int rc, .ref at_, .ref am, .ref ak, .ref ac, .ref an, .ref lp])), (wa, .inl (cPl, 4, .inr (.inr (.inr (.inr wf)))))] sz) [(lk, .inr (9, [.ref ps, .ref sp, .ref wa, .ref rd, .int rc, .ref at_, .ref am, .ref ak, .ref ac, .ref an, .ref lp])), (wa, .inl (cPl, 4, .inr (.inr (.inr (.inr wf)))))]) (va_A [(lk, .inr (9, [.ref ps, .ref sp, .ref wa, .ref rd, .int rc, .ref at_, .ref am, .ref ak, .ref ac, .ref an, .ref lp])), (wa, .inl (cPl, 4, .inr (.inr (.inr (.inr wf)))))] sz)) 0 0 (va_A [(lk, .inr (9, [.ref ps, .ref sp, .ref wa, .ref rd, .int rc, .ref at_, .ref am, .ref ak, .ref ac, .ref an, .ref lp])), (wa, .inl (cPl, 4, .inr (.inr (.inr (.inr wf)))))] sz) := by
  refine Met.ofW (cc := cX4_waiters) (maxL := 3) (ret := (some .int)) (by decide) rfl ?_
  intro p e s m args below meth c s₁ B hml hv
  obtain ⟨rfl, hsz, hP, hK, hD0⟩ := hv
  have hx := B.exec
  have hb := B.bytes
  have hr := B.returns
  have hts := atoms_spec (ws := wsX4_waiters) B.pre
  have hown : s.vm.findClass RX4 = some m.cls := findClass_of_methodNamed B.named
  have hlocks := B.notSynchronized
  subst hsz
  have hD := hD0.self (sz := s.heap.size)
  generalize hAe : va_A [(lk, .inr (9, [.ref ps, .ref sp, .ref wa, .ref rd, .int rc, .ref at_, .ref am, .ref ak, .ref ac, .ref an, .ref lp])), (wa, .inl (cPl, 4, .inr (.inr (.inr (.inr wf)))))] s.heap.size = A at hD ⊢
  have hA : ∀ q : Nat, s.heap.size ≤ q → A q := fun q h => by rw [← hAe]; exact Or.inr h
  have hS : va_S A s.heap s.heap [] := va_S.rf
  have hP : va_P (dC, dI) vwCl [(lk, .inr (9, [.ref ps, .ref sp, .ref wa, .ref rd, .int rc, .ref at_, .ref am, .ref ak, .ref ac, .ref an, .ref lp])), (wa, .inl (cPl, 4, .inr (.inr (.inr (.inr wf)))))] s.heap := hP
  have hl := lv_entry ([.ref lk]) (n := 3) (Nat.le_of_ble_eq_true rfl)
  rw [lg_entry_eq]
  generalize (lg_sl ([.ref lk]) ++ List.replicate (3 - (lg_sl ([.ref lk])).length) Slot.unset).toArray = ls at hl ⊢
  have hl : lv_has ls 3 [(0, .ref lk)] := hl
  refine lv_iconst (v := 0) hx hb dX4_waiters_0 (by decide) ?_
  refine lv_istore_n (lv' := [(1, .int 0), (0, .ref lk)]) hx hb dX4_waiters_1 rfl hl (by decide) rfl (fun ls hl => ?_)
  refine lv_iconst (v := 0) hx hb dX4_waiters_2 (by decide) ?_
  refine lv_istore_n (lv' := [(2, .int 0), (1, .int 0), (0, .ref lk)]) hx hb dX4_waiters_3 rfl hl (by decide) rfl (fun ls hl => ?_)
  refine lv_iload_n hx hb dX4_waiters_4 rfl (lv_at hl 0 rfl) ?_
  refine lv_iconst (v := 4) hx hb dX4_waiters_5 (by decide) ?_
  refine lv_icmp_ge (tgt := 32) hx hb dX4_waiters_6 (by decide) (fun c_1 => absurd c_1 (by decide)) (fun _ => ?_)
  refine lv_iload_n hx hb dX4_waiters_9 rfl (lv_at hl 1 rfl) ?_
  refine lv_aload_n hx hb dX4_waiters_10 rfl (lv_at hl 2 rfl) ?_
  refine va_get (D := (dC, dI)) (ci := 9) (v := .ref wa) (C := RX4) (T := TX4) (N := 11) hx hb hts (by decide +kernel) hown hK hP 0 rfl rfl 2 (by decide) (hts (.fieldLink RX4 23 "QueryHall$Locks" "waitsAt" "[LQueryHall$Place;") (by decide +kernel)) (fun _ h9 => h9) rfl dX4_waiters_11 ?_
  refine lv_iload_n hx hb dX4_waiters_14 rfl (lv_at hl 0 rfl) ?_
  refine va_aldq hx hb hK hP 1 0 rfl rfl (show ¬ ((0 : Int32) < 0 ∨ 4 ≤ (0 : Int32).toNatClampNeg) by decide) dX4_waiters_15 ?_
  rw [show (0 : Int32).toNatClampNeg = 0 from rfl]
  rcases hz_2 : wf 0 with _ | y_3
  · skip
    refine W.eq (g2 := F0 m 16 ls [.null, .int 0]) rfl ?_
    refine lv_ifnonnullN hx hb dX4_waiters_16 ?_
    refine lv_iconst (v := 0) hx hb dX4_waiters_19 (by decide) ?_
    refine lv_goto (tgt := 24) hx hb dX4_waiters_20 (by decide) ?_
    refine lv_iadd hx hb dX4_waiters_24 ?_
    refine lv_topi (fun x_4 ex_4 => ?_)
    refine lv_istore_n (lv' := [(1, .int x_4), (2, .int 0), (0, .ref lk)]) hx hb dX4_waiters_25 rfl hl (by decide) rfl (fun ls hl => ?_)
    refine lv_iinc (v := 1) (lv' := [(2, .int 1), (1, .int x_4), (0, .ref lk)]) hx hb dX4_waiters_26 hl (k := 1) rfl (by decide) (by decide) rfl (fun ls hl => ?_)
    refine lv_goto (tgt := 4) hx hb dX4_waiters_29 (by decide) ?_
    refine lv_iload_n hx hb dX4_waiters_4 rfl (lv_at hl 0 rfl) ?_
    refine lv_iconst (v := 4) hx hb dX4_waiters_5 (by decide) ?_
    refine lv_icmp_ge (tgt := 32) hx hb dX4_waiters_6 (by decide) (fun c_5 => absurd c_5 (by decide)) (fun _ => ?_)
    refine lv_iload_n hx hb dX4_waiters_9 rfl (lv_at hl 1 rfl) ?_
    refine lv_aload_n hx hb dX4_waiters_10 rfl (lv_at hl 2 rfl) ?_
    refine va_get (D := (dC, dI)) (ci := 9) (v := .ref wa) (C := RX4) (T := TX4) (N := 11) hx hb hts (by decide +kernel) hown hK hP 0 rfl rfl 2 (by decide) (hts (.fieldLink RX4 23 "QueryHall$Locks" "waitsAt" "[LQueryHall$Place;") (by decide +kernel)) (fun _ h9 => h9) rfl dX4_waiters_11 ?_
    refine lv_iload_n hx hb dX4_waiters_14 rfl (lv_at hl 0 rfl) ?_
    refine va_aldq hx hb hK hP 1 0 rfl rfl (show ¬ ((1 : Int32) < 0 ∨ 4 ≤ (1 : Int32).toNatClampNeg) by decide) dX4_waiters_15 ?_
    rw [show (1 : Int32).toNatClampNeg = 1 from rfl]
    rcases hz_6 : wf 1 with _ | y_7
    · skip
      refine W.eq (g2 := F0 m 16 ls [.null, .int x_4]) rfl ?_
      refine lv_ifnonnullN hx hb dX4_waiters_16 ?_
      refine lv_iconst (v := 0) hx hb dX4_waiters_19 (by decide) ?_
      refine lv_goto (tgt := 24) hx hb dX4_waiters_20 (by decide) ?_
      refine lv_iadd hx hb dX4_waiters_24 ?_
      refine lv_topi (fun x_8 ex_8 => ?_)
      refine lv_istore_n (lv' := [(1, .int x_8), (2, .int 1), (0, .ref lk)]) hx hb dX4_waiters_25 rfl hl (by decide) rfl (fun ls hl => ?_)
      refine lv_iinc (v := 2) (lv' := [(2, .int 2), (1, .int x_8), (0, .ref lk)]) hx hb dX4_waiters_26 hl (k := 1) rfl (by decide) (by decide) rfl (fun ls hl => ?_)
      refine lv_goto (tgt := 4) hx hb dX4_waiters_29 (by decide) ?_
      refine lv_iload_n hx hb dX4_waiters_4 rfl (lv_at hl 0 rfl) ?_
      refine lv_iconst (v := 4) hx hb dX4_waiters_5 (by decide) ?_
      refine lv_icmp_ge (tgt := 32) hx hb dX4_waiters_6 (by decide) (fun c_9 => absurd c_9 (by decide)) (fun _ => ?_)
      refine lv_iload_n hx hb dX4_waiters_9 rfl (lv_at hl 1 rfl) ?_
      refine lv_aload_n hx hb dX4_waiters_10 rfl (lv_at hl 2 rfl) ?_
      refine va_get (D := (dC, dI)) (ci := 9) (v := .ref wa) (C := RX4) (T := TX4) (N := 11) hx hb hts (by decide +kernel) hown hK hP 0 rfl rfl 2 (by decide) (hts (.fieldLink RX4 23 "QueryHall$Locks" "waitsAt" "[LQueryHall$Place;") (by decide +kernel)) (fun _ h9 => h9) rfl dX4_waiters_11 ?_
      refine lv_iload_n hx hb dX4_waiters_14 rfl (lv_at hl 0 rfl) ?_
      refine va_aldq hx hb hK hP 1 0 rfl rfl (show ¬ ((2 : Int32) < 0 ∨ 4 ≤ (2 : Int32).toNatClampNeg) by decide) dX4_waiters_15 ?_
      rw [show (2 : Int32).toNatClampNeg = 2 from rfl]
      rcases hz_10 : wf 2 with _ | y_11
      · skip
        refine W.eq (g2 := F0 m 16 ls [.null, .int x_8]) rfl ?_
        refine lv_ifnonnullN hx hb dX4_waiters_16 ?_
        refine lv_iconst (v := 0) hx hb dX4_waiters_19 (by decide) ?_
        refine lv_goto (tgt := 24) hx hb dX4_waiters_20 (by decide) ?_
        refine lv_iadd hx hb dX4_waiters_24 ?_
        refine lv_topi (fun x_12 ex_12 => ?_)
        refine lv_istore_n (lv' := [(1, .int x_12), (2, .int 2), (0, .ref lk)]) hx hb dX4_waiters_25 rfl hl (by decide) rfl (fun ls hl => ?_)
        refine lv_iinc (v := 3) (lv' := [(2, .int 3), (1, .int x_12), (0, .ref lk)]) hx hb dX4_waiters_26 hl (k := 1) rfl (by decide) (by decide) rfl (fun ls hl => ?_)
        refine lv_goto (tgt := 4) hx hb dX4_waiters_29 (by decide) ?_
        refine lv_iload_n hx hb dX4_waiters_4 rfl (lv_at hl 0 rfl) ?_
        refine lv_iconst (v := 4) hx hb dX4_waiters_5 (by decide) ?_
        refine lv_icmp_ge (tgt := 32) hx hb dX4_waiters_6 (by decide) (fun c_13 => absurd c_13 (by decide)) (fun _ => ?_)
        refine lv_iload_n hx hb dX4_waiters_9 rfl (lv_at hl 1 rfl) ?_
        refine lv_aload_n hx hb dX4_waiters_10 rfl (lv_at hl 2 rfl) ?_
        refine va_get (D := (dC, dI)) (ci := 9) (v := .ref wa) (C := RX4) (T := TX4) (N := 11) hx hb hts (by decide +kernel) hown hK hP 0 rfl rfl 2 (by decide) (hts (.fieldLink RX4 23 "QueryHall$Locks" "waitsAt" "[LQueryHall$Place;") (by decide +kernel)) (fun _ h9 => h9) rfl dX4_waiters_11 ?_
        refine lv_iload_n hx hb dX4_waiters_14 rfl (lv_at hl 0 rfl) ?_
        refine va_aldq hx hb hK hP 1 0 rfl rfl (show ¬ ((3 : Int32) < 0 ∨ 4 ≤ (3 : Int32).toNatClampNeg) by decide) dX4_waiters_15 ?_
        rw [show (3 : Int32).toNatClampNeg = 3 from rfl]
        rcases hz_14 : wf 3 with _ | y_15
        · skip
          refine W.eq (g2 := F0 m 16 ls [.null, .int x_12]) rfl ?_
          refine lv_ifnonnullN hx hb dX4_waiters_16 ?_
          refine lv_iconst (v := 0) hx hb dX4_waiters_19 (by decide) ?_
          refine lv_goto (tgt := 24) hx hb dX4_waiters_20 (by decide) ?_
          refine lv_iadd hx hb dX4_waiters_24 ?_
          refine lv_topi (fun x_16 ex_16 => ?_)
          refine lv_istore_n (lv' := [(1, .int x_16), (2, .int 3), (0, .ref lk)]) hx hb dX4_waiters_25 rfl hl (by decide) rfl (fun ls hl => ?_)
          refine lv_iinc (v := 4) (lv' := [(2, .int 4), (1, .int x_16), (0, .ref lk)]) hx hb dX4_waiters_26 hl (k := 1) rfl (by decide) (by decide) rfl (fun ls hl => ?_)
          refine lv_goto (tgt := 4) hx hb dX4_waiters_29 (by decide) ?_
          refine lv_iload_n hx hb dX4_waiters_4 rfl (lv_at hl 0 rfl) ?_
          refine lv_iconst (v := 4) hx hb dX4_waiters_5 (by decide) ?_
          refine lv_icmp_ge (tgt := 32) hx hb dX4_waiters_6 (by decide) (fun _ => ?_) (fun c_17 => absurd (by decide) c_17)
          refine lv_iload_n hx hb dX4_waiters_32 rfl (lv_at hl 1 rfl) ?_
          have hP9 := hP.sub (ws' := [(lk, .inr (9, [.ref ps, .ref sp, .ref wa, .ref rd, .int rc, .ref at_, .ref am, .ref ak, .ref ac, .ref an, .ref lp])), (wa, .inl (cPl, 4, .inr (.inr (.inr (.inr wf)))))]) [0, 1] rfl
          have hD9 := hD.sub (ws' := [(lk, .inr (9, [.ref ps, .ref sp, .ref wa, .ref rd, .int rc, .ref at_, .ref am, .ref ak, .ref ac, .ref an, .ref lp])), (wa, .inl (cPl, 4, .inr (.inr (.inr (.inr wf)))))]) [0, 1] (by decide) rfl
          have hK9 := hK.sub (tys' := [(cPl, .object RX7)]) [0] rfl
          exact W.iret (v := x_16) hx hb hr (fun t ht hW => ⟨⟨x_16, (), rfl, (by subst_vars; rfl), by rw [ht]; exact hP9, va_K.moved hW.alike hK9, hD9⟩, hS.F ht⟩) hS.2.2 dX4_waiters_33
        · skip
          refine W.eq (g2 := F0 m 16 ls [.ref y_15, .int x_12]) rfl ?_
          refine lv_ifnonnull (tgt := 23) hx hb dX4_waiters_16 (by decide) ?_
          refine lv_iconst (v := 1) hx hb dX4_waiters_23 (by decide) ?_
          refine lv_iadd hx hb dX4_waiters_24 ?_
          refine lv_topi (fun x_18 ex_18 => ?_)
          refine lv_istore_n (lv' := [(1, .int x_18), (2, .int 3), (0, .ref lk)]) hx hb dX4_waiters_25 rfl hl (by decide) rfl (fun ls hl => ?_)
          refine lv_iinc (v := 4) (lv' := [(2, .int 4), (1, .int x_18), (0, .ref lk)]) hx hb dX4_waiters_26 hl (k := 1) rfl (by decide) (by decide) rfl (fun ls hl => ?_)
          refine lv_goto (tgt := 4) hx hb dX4_waiters_29 (by decide) ?_
          refine lv_iload_n hx hb dX4_waiters_4 rfl (lv_at hl 0 rfl) ?_
          refine lv_iconst (v := 4) hx hb dX4_waiters_5 (by decide) ?_
          refine lv_icmp_ge (tgt := 32) hx hb dX4_waiters_6 (by decide) (fun _ => ?_) (fun c_19 => absurd (by decide) c_19)
          refine lv_iload_n hx hb dX4_waiters_32 rfl (lv_at hl 1 rfl) ?_
          have hP9 := hP.sub (ws' := [(lk, .inr (9, [.ref ps, .ref sp, .ref wa, .ref rd, .int rc, .ref at_, .ref am, .ref ak, .ref ac, .ref an, .ref lp])), (wa, .inl (cPl, 4, .inr (.inr (.inr (.inr wf)))))]) [0, 1] rfl
          have hD9 := hD.sub (ws' := [(lk, .inr (9, [.ref ps, .ref sp, .ref wa, .ref rd, .int rc, .ref at_, .ref am, .ref ak, .ref ac, .ref an, .ref lp])), (wa, .inl (cPl, 4, .inr (.inr (.inr (.inr wf)))))]) [0, 1] (by decide) rfl
          have hK9 := hK.sub (tys' := [(cPl, .object RX7)]) [0] rfl
          exact W.iret (v := x_18) hx hb hr (fun t ht hW => ⟨⟨x_18, (), rfl, (by subst_vars; rfl), by rw [ht]; exact hP9, va_K.moved hW.alike hK9, hD9⟩, hS.F ht⟩) hS.2.2 dX4_waiters_33
      · skip
        refine W.eq (g2 := F0 m 16 ls [.ref y_11, .int x_8]) rfl ?_
        refine lv_ifnonnull (tgt := 23) hx hb dX4_waiters_16 (by decide) ?_
        refine lv_iconst (v := 1) hx hb dX4_waiters_23 (by decide) ?_
        refine lv_iadd hx hb dX4_waiters_24 ?_
        refine lv_topi (fun x_20 ex_20 => ?_)
        refine lv_istore_n (lv' := [(1, .int x_20), (2, .int 2), (0, .ref lk)]) hx hb dX4_waiters_25 rfl hl (by decide) rfl (fun ls hl => ?_)
        refine lv_iinc (v := 3) (lv' := [(2, .int 3), (1, .int x_20), (0, .ref lk)]) hx hb dX4_waiters_26 hl (k := 1) rfl (by decide) (by decide) rfl (fun ls hl => ?_)
        refine lv_goto (tgt := 4) hx hb dX4_waiters_29 (by decide) ?_
        refine lv_iload_n hx hb dX4_waiters_4 rfl (lv_at hl 0 rfl) ?_
        refine lv_iconst (v := 4) hx hb dX4_waiters_5 (by decide) ?_
        refine lv_icmp_ge (tgt := 32) hx hb dX4_waiters_6 (by decide) (fun c_21 => absurd c_21 (by decide)) (fun _ => ?_)
        refine lv_iload_n hx hb dX4_waiters_9 rfl (lv_at hl 1 rfl) ?_
        refine lv_aload_n hx hb dX4_waiters_10 rfl (lv_at hl 2 rfl) ?_
        refine va_get (D := (dC, dI)) (ci := 9) (v := .ref wa) (C := RX4) (T := TX4) (N := 11) hx hb hts (by decide +kernel) hown hK hP 0 rfl rfl 2 (by decide) (hts (.fieldLink RX4 23 "QueryHall$Locks" "waitsAt" "[LQueryHall$Place;") (by decide +kernel)) (fun _ h9 => h9) rfl dX4_waiters_11 ?_
        refine lv_iload_n hx hb dX4_waiters_14 rfl (lv_at hl 0 rfl) ?_
        refine va_aldq hx hb hK hP 1 0 rfl rfl (show ¬ ((3 : Int32) < 0 ∨ 4 ≤ (3 : Int32).toNatClampNeg) by decide) dX4_waiters_15 ?_
        rw [show (3 : Int32).toNatClampNeg = 3 from rfl]
        rcases hz_22 : wf 3 with _ | y_23
        · skip
          refine W.eq (g2 := F0 m 16 ls [.null, .int x_20]) rfl ?_
          refine lv_ifnonnullN hx hb dX4_waiters_16 ?_
          refine lv_iconst (v := 0) hx hb dX4_waiters_19 (by decide) ?_
          refine lv_goto (tgt := 24) hx hb dX4_waiters_20 (by decide) ?_
          refine lv_iadd hx hb dX4_waiters_24 ?_
          refine lv_topi (fun x_24 ex_24 => ?_)
          refine lv_istore_n (lv' := [(1, .int x_24), (2, .int 3), (0, .ref lk)]) hx hb dX4_waiters_25 rfl hl (by decide) rfl (fun ls hl => ?_)
          refine lv_iinc (v := 4) (lv' := [(2, .int 4), (1, .int x_24), (0, .ref lk)]) hx hb dX4_waiters_26 hl (k := 1) rfl (by decide) (by decide) rfl (fun ls hl => ?_)
          refine lv_goto (tgt := 4) hx hb dX4_waiters_29 (by decide) ?_
          refine lv_iload_n hx hb dX4_waiters_4 rfl (lv_at hl 0 rfl) ?_
          refine lv_iconst (v := 4) hx hb dX4_waiters_5 (by decide) ?_
          refine lv_icmp_ge (tgt := 32) hx hb dX4_waiters_6 (by decide) (fun _ => ?_) (fun c_25 => absurd (by decide) c_25)
          refine lv_iload_n hx hb dX4_waiters_32 rfl (lv_at hl 1 rfl) ?_
          have hP9 := hP.sub (ws' := [(lk, .inr (9, [.ref ps, .ref sp, .ref wa, .ref rd, .int rc, .ref at_, .ref am, .ref ak, .ref ac, .ref an, .ref lp])), (wa, .inl (cPl, 4, .inr (.inr (.inr (.inr wf)))))]) [0, 1] rfl
          have hD9 := hD.sub (ws' := [(lk, .inr (9, [.ref ps, .ref sp, .ref wa, .ref rd, .int rc, .ref at_, .ref am, .ref ak, .ref ac, .ref an, .ref lp])), (wa, .inl (cPl, 4, .inr (.inr (.inr (.inr wf)))))]) [0, 1] (by decide) rfl
          have hK9 := hK.sub (tys' := [(cPl, .object RX7)]) [0] rfl
          exact W.iret (v := x_24) hx hb hr (fun t ht hW => ⟨⟨x_24, (), rfl, (by subst_vars; rfl), by rw [ht]; exact hP9, va_K.moved hW.alike hK9, hD9⟩, hS.F ht⟩) hS.2.2 dX4_waiters_33
        · skip
          refine W.eq (g2 := F0 m 16 ls [.ref y_23, .int x_20]) rfl ?_
          refine lv_ifnonnull (tgt := 23) hx hb dX4_waiters_16 (by decide) ?_
          refine lv_iconst (v := 1) hx hb dX4_waiters_23 (by decide) ?_
          refine lv_iadd hx hb dX4_waiters_24 ?_
          refine lv_topi (fun x_26 ex_26 => ?_)
          refine lv_istore_n (lv' := [(1, .int x_26), (2, .int 3), (0, .ref lk)]) hx hb dX4_waiters_25 rfl hl (by decide) rfl (fun ls hl => ?_)
          refine lv_iinc (v := 4) (lv' := [(2, .int 4), (1, .int x_26), (0, .ref lk)]) hx hb dX4_waiters_26 hl (k := 1) rfl (by decide) (by decide) rfl (fun ls hl => ?_)
          refine lv_goto (tgt := 4) hx hb dX4_waiters_29 (by decide) ?_
          refine lv_iload_n hx hb dX4_waiters_4 rfl (lv_at hl 0 rfl) ?_
          refine lv_iconst (v := 4) hx hb dX4_waiters_5 (by decide) ?_
          refine lv_icmp_ge (tgt := 32) hx hb dX4_waiters_6 (by decide) (fun _ => ?_) (fun c_27 => absurd (by decide) c_27)
          refine lv_iload_n hx hb dX4_waiters_32 rfl (lv_at hl 1 rfl) ?_
          have hP9 := hP.sub (ws' := [(lk, .inr (9, [.ref ps, .ref sp, .ref wa, .ref rd, .int rc, .ref at_, .ref am, .ref ak, .ref ac, .ref an, .ref lp])), (wa, .inl (cPl, 4, .inr (.inr (.inr (.inr wf)))))]) [0, 1] rfl
          have hD9 := hD.sub (ws' := [(lk, .inr (9, [.ref ps, .ref sp, .ref wa, .ref rd, .int rc, .ref at_, .ref am, .ref ak, .ref ac, .ref an, .ref lp])), (wa, .inl (cPl, 4, .inr (.inr (.inr (.inr wf)))))]) [0, 1] (by decide) rfl
          have hK9 := hK.sub (tys' := [(cPl, .object RX7)]) [0] rfl
          exact W.iret (v := x_26) hx hb hr (fun t ht hW => ⟨⟨x_26, (), rfl, (by subst_vars; rfl), by rw [ht]; exact hP9, va_K.moved hW.alike hK9, hD9⟩, hS.F ht⟩) hS.2.2 dX4_waiters_33
    · skip
      refine W.eq (g2 := F0 m 16 ls [.ref y_7, .int x_4]) rfl ?_
      refine lv_ifnonnull (tgt := 23) hx hb dX4_waiters_16 (by decide) ?_
      refine lv_iconst (v := 1) hx hb dX4_waiters_23 (by decide) ?_
      refine lv_iadd hx hb dX4_waiters_24 ?_
      refine lv_topi (fun x_28 ex_28 => ?_)
      refine lv_istore_n (lv' := [(1, .int x_28), (2, .int 1), (0, .ref lk)]) hx hb dX4_waiters_25 rfl hl (by decide) rfl (fun ls hl => ?_)
      refine lv_iinc (v := 2) (lv' := [(2, .int 2), (1, .int x_28), (0, .ref lk)]) hx hb dX4_waiters_26 hl (k := 1) rfl (by decide) (by decide) rfl (fun ls hl => ?_)
      refine lv_goto (tgt := 4) hx hb dX4_waiters_29 (by decide) ?_
      refine lv_iload_n hx hb dX4_waiters_4 rfl (lv_at hl 0 rfl) ?_
      refine lv_iconst (v := 4) hx hb dX4_waiters_5 (by decide) ?_
      refine lv_icmp_ge (tgt := 32) hx hb dX4_waiters_6 (by decide) (fun c_29 => absurd c_29 (by decide)) (fun _ => ?_)
      refine lv_iload_n hx hb dX4_waiters_9 rfl (lv_at hl 1 rfl) ?_
      refine lv_aload_n hx hb dX4_waiters_10 rfl (lv_at hl 2 rfl) ?_
      refine va_get (D := (dC, dI)) (ci := 9) (v := .ref wa) (C := RX4) (T := TX4) (N := 11) hx hb hts (by decide +kernel) hown hK hP 0 rfl rfl 2 (by decide) (hts (.fieldLink RX4 23 "QueryHall$Locks" "waitsAt" "[LQueryHall$Place;") (by decide +kernel)) (fun _ h9 => h9) rfl dX4_waiters_11 ?_
      refine lv_iload_n hx hb dX4_waiters_14 rfl (lv_at hl 0 rfl) ?_
      refine va_aldq hx hb hK hP 1 0 rfl rfl (show ¬ ((2 : Int32) < 0 ∨ 4 ≤ (2 : Int32).toNatClampNeg) by decide) dX4_waiters_15 ?_
      rw [show (2 : Int32).toNatClampNeg = 2 from rfl]
      rcases hz_30 : wf 2 with _ | y_31
      · skip
        refine W.eq (g2 := F0 m 16 ls [.null, .int x_28]) rfl ?_
        refine lv_ifnonnullN hx hb dX4_waiters_16 ?_
        refine lv_iconst (v := 0) hx hb dX4_waiters_19 (by decide) ?_
        refine lv_goto (tgt := 24) hx hb dX4_waiters_20 (by decide) ?_
        refine lv_iadd hx hb dX4_waiters_24 ?_
        refine lv_topi (fun x_32 ex_32 => ?_)
        refine lv_istore_n (lv' := [(1, .int x_32), (2, .int 2), (0, .ref lk)]) hx hb dX4_waiters_25 rfl hl (by decide) rfl (fun ls hl => ?_)
        refine lv_iinc (v := 3) (lv' := [(2, .int 3), (1, .int x_32), (0, .ref lk)]) hx hb dX4_waiters_26 hl (k := 1) rfl (by decide) (by decide) rfl (fun ls hl => ?_)
        refine lv_goto (tgt := 4) hx hb dX4_waiters_29 (by decide) ?_
        refine lv_iload_n hx hb dX4_waiters_4 rfl (lv_at hl 0 rfl) ?_
        refine lv_iconst (v := 4) hx hb dX4_waiters_5 (by decide) ?_
        refine lv_icmp_ge (tgt := 32) hx hb dX4_waiters_6 (by decide) (fun c_33 => absurd c_33 (by decide)) (fun _ => ?_)
        refine lv_iload_n hx hb dX4_waiters_9 rfl (lv_at hl 1 rfl) ?_
        refine lv_aload_n hx hb dX4_waiters_10 rfl (lv_at hl 2 rfl) ?_
        refine va_get (D := (dC, dI)) (ci := 9) (v := .ref wa) (C := RX4) (T := TX4) (N := 11) hx hb hts (by decide +kernel) hown hK hP 0 rfl rfl 2 (by decide) (hts (.fieldLink RX4 23 "QueryHall$Locks" "waitsAt" "[LQueryHall$Place;") (by decide +kernel)) (fun _ h9 => h9) rfl dX4_waiters_11 ?_
        refine lv_iload_n hx hb dX4_waiters_14 rfl (lv_at hl 0 rfl) ?_
        refine va_aldq hx hb hK hP 1 0 rfl rfl (show ¬ ((3 : Int32) < 0 ∨ 4 ≤ (3 : Int32).toNatClampNeg) by decide) dX4_waiters_15 ?_
        rw [show (3 : Int32).toNatClampNeg = 3 from rfl]
        rcases hz_34 : wf 3 with _ | y_35
        · skip
          refine W.eq (g2 := F0 m 16 ls [.null, .int x_32]) rfl ?_
          refine lv_ifnonnullN hx hb dX4_waiters_16 ?_
          refine lv_iconst (v := 0) hx hb dX4_waiters_19 (by decide) ?_
          refine lv_goto (tgt := 24) hx hb dX4_waiters_20 (by decide) ?_
          refine lv_iadd hx hb dX4_waiters_24 ?_
          refine lv_topi (fun x_36 ex_36 => ?_)
          refine lv_istore_n (lv' := [(1, .int x_36), (2, .int 3), (0, .ref lk)]) hx hb dX4_waiters_25 rfl hl (by decide) rfl (fun ls hl => ?_)
          refine lv_iinc (v := 4) (lv' := [(2, .int 4), (1, .int x_36), (0, .ref lk)]) hx hb dX4_waiters_26 hl (k := 1) rfl (by decide) (by decide) rfl (fun ls hl => ?_)
          refine lv_goto (tgt := 4) hx hb dX4_waiters_29 (by decide) ?_
          refine lv_iload_n hx hb dX4_waiters_4 rfl (lv_at hl 0 rfl) ?_
          refine lv_iconst (v := 4) hx hb dX4_waiters_5 (by decide) ?_
          refine lv_icmp_ge (tgt := 32) hx hb dX4_waiters_6 (by decide) (fun _ => ?_) (fun c_37 => absurd (by decide) c_37)
          refine lv_iload_n hx hb dX4_waiters_32 rfl (lv_at hl 1 rfl) ?_
          have hP9 := hP.sub (ws' := [(lk, .inr (9, [.ref ps, .ref sp, .ref wa, .ref rd, .int rc, .ref at_, .ref am, .ref ak, .ref ac, .ref an, .ref lp])), (wa, .inl (cPl, 4, .inr (.inr (.inr (.inr wf)))))]) [0, 1] rfl
          have hD9 := hD.sub (ws' := [(lk, .inr (9, [.ref ps, .ref sp, .ref wa, .ref rd, .int rc, .ref at_, .ref am, .ref ak, .ref ac, .ref an, .ref lp])), (wa, .inl (cPl, 4, .inr (.inr (.inr (.inr wf)))))]) [0, 1] (by decide) rfl
          have hK9 := hK.sub (tys' := [(cPl, .object RX7)]) [0] rfl
          exact W.iret (v := x_36) hx hb hr (fun t ht hW => ⟨⟨x_36, (), rfl, (by subst_vars; rfl), by rw [ht]; exact hP9, va_K.moved hW.alike hK9, hD9⟩, hS.F ht⟩) hS.2.2 dX4_waiters_33
        · skip
          refine W.eq (g2 := F0 m 16 ls [.ref y_35, .int x_32]) rfl ?_
          refine lv_ifnonnull (tgt := 23) hx hb dX4_waiters_16 (by decide) ?_
          refine lv_iconst (v := 1) hx hb dX4_waiters_23 (by decide) ?_
          refine lv_iadd hx hb dX4_waiters_24 ?_
          refine lv_topi (fun x_38 ex_38 => ?_)
          refine lv_istore_n (lv' := [(1, .int x_38), (2, .int 3), (0, .ref lk)]) hx hb dX4_waiters_25 rfl hl (by decide) rfl (fun ls hl => ?_)
          refine lv_iinc (v := 4) (lv' := [(2, .int 4), (1, .int x_38), (0, .ref lk)]) hx hb dX4_waiters_26 hl (k := 1) rfl (by decide) (by decide) rfl (fun ls hl => ?_)
          refine lv_goto (tgt := 4) hx hb dX4_waiters_29 (by decide) ?_
          refine lv_iload_n hx hb dX4_waiters_4 rfl (lv_at hl 0 rfl) ?_
          refine lv_iconst (v := 4) hx hb dX4_waiters_5 (by decide) ?_
          refine lv_icmp_ge (tgt := 32) hx hb dX4_waiters_6 (by decide) (fun _ => ?_) (fun c_39 => absurd (by decide) c_39)
          refine lv_iload_n hx hb dX4_waiters_32 rfl (lv_at hl 1 rfl) ?_
          have hP9 := hP.sub (ws' := [(lk, .inr (9, [.ref ps, .ref sp, .ref wa, .ref rd, .int rc, .ref at_, .ref am, .ref ak, .ref ac, .ref an, .ref lp])), (wa, .inl (cPl, 4, .inr (.inr (.inr (.inr wf)))))]) [0, 1] rfl
          have hD9 := hD.sub (ws' := [(lk, .inr (9, [.ref ps, .ref sp, .ref wa, .ref rd, .int rc, .ref at_, .ref am, .ref ak, .ref ac, .ref an, .ref lp])), (wa, .inl (cPl, 4, .inr (.inr (.inr (.inr wf)))))]) [0, 1] (by decide) rfl
          have hK9 := hK.sub (tys' := [(cPl, .object RX7)]) [0] rfl
          exact W.iret (v := x_38) hx hb hr (fun t ht hW => ⟨⟨x_38, (), rfl, (by subst_vars; rfl), by rw [ht]; exact hP9, va_K.moved hW.alike hK9, hD9⟩, hS.F ht⟩) hS.2.2 dX4_waiters_33
      · skip
        refine W.eq (g2 := F0 m 16 ls [.ref y_31, .int x_28]) rfl ?_
        refine lv_ifnonnull (tgt := 23) hx hb dX4_waiters_16 (by decide) ?_
        refine lv_iconst (v := 1) hx hb dX4_waiters_23 (by decide) ?_
        refine lv_iadd hx hb dX4_waiters_24 ?_
        refine lv_topi (fun x_40 ex_40 => ?_)
        refine lv_istore_n (lv' := [(1, .int x_40), (2, .int 2), (0, .ref lk)]) hx hb dX4_waiters_25 rfl hl (by decide) rfl (fun ls hl => ?_)
        refine lv_iinc (v := 3) (lv' := [(2, .int 3), (1, .int x_40), (0, .ref lk)]) hx hb dX4_waiters_26 hl (k := 1) rfl (by decide) (by decide) rfl (fun ls hl => ?_)
        refine lv_goto (tgt := 4) hx hb dX4_waiters_29 (by decide) ?_
        refine lv_iload_n hx hb dX4_waiters_4 rfl (lv_at hl 0 rfl) ?_
        refine lv_iconst (v := 4) hx hb dX4_waiters_5 (by decide) ?_
        refine lv_icmp_ge (tgt := 32) hx hb dX4_waiters_6 (by decide) (fun c_41 => absurd c_41 (by decide)) (fun _ => ?_)
        refine lv_iload_n hx hb dX4_waiters_9 rfl (lv_at hl 1 rfl) ?_
        refine lv_aload_n hx hb dX4_waiters_10 rfl (lv_at hl 2 rfl) ?_
        refine va_get (D := (dC, dI)) (ci := 9) (v := .ref wa) (C := RX4) (T := TX4) (N := 11) hx hb hts (by decide +kernel) hown hK hP 0 rfl rfl 2 (by decide) (hts (.fieldLink RX4 23 "QueryHall$Locks" "waitsAt" "[LQueryHall$Place;") (by decide +kernel)) (fun _ h9 => h9) rfl dX4_waiters_11 ?_
        refine lv_iload_n hx hb dX4_waiters_14 rfl (lv_at hl 0 rfl) ?_
        refine va_aldq hx hb hK hP 1 0 rfl rfl (show ¬ ((3 : Int32) < 0 ∨ 4 ≤ (3 : Int32).toNatClampNeg) by decide) dX4_waiters_15 ?_
        rw [show (3 : Int32).toNatClampNeg = 3 from rfl]
        rcases hz_42 : wf 3 with _ | y_43
        · skip
          refine W.eq (g2 := F0 m 16 ls [.null, .int x_40]) rfl ?_
          refine lv_ifnonnullN hx hb dX4_waiters_16 ?_
          refine lv_iconst (v := 0) hx hb dX4_waiters_19 (by decide) ?_
          refine lv_goto (tgt := 24) hx hb dX4_waiters_20 (by decide) ?_
          refine lv_iadd hx hb dX4_waiters_24 ?_
          refine lv_topi (fun x_44 ex_44 => ?_)
          refine lv_istore_n (lv' := [(1, .int x_44), (2, .int 3), (0, .ref lk)]) hx hb dX4_waiters_25 rfl hl (by decide) rfl (fun ls hl => ?_)
          refine lv_iinc (v := 4) (lv' := [(2, .int 4), (1, .int x_44), (0, .ref lk)]) hx hb dX4_waiters_26 hl (k := 1) rfl (by decide) (by decide) rfl (fun ls hl => ?_)
          refine lv_goto (tgt := 4) hx hb dX4_waiters_29 (by decide) ?_
          refine lv_iload_n hx hb dX4_waiters_4 rfl (lv_at hl 0 rfl) ?_
          refine lv_iconst (v := 4) hx hb dX4_waiters_5 (by decide) ?_
          refine lv_icmp_ge (tgt := 32) hx hb dX4_waiters_6 (by decide) (fun _ => ?_) (fun c_45 => absurd (by decide) c_45)
          refine lv_iload_n hx hb dX4_waiters_32 rfl (lv_at hl 1 rfl) ?_
          have hP9 := hP.sub (ws' := [(lk, .inr (9, [.ref ps, .ref sp, .ref wa, .ref rd, .int rc, .ref at_, .ref am, .ref ak, .ref ac, .ref an, .ref lp])), (wa, .inl (cPl, 4, .inr (.inr (.inr (.inr wf)))))]) [0, 1] rfl
          have hD9 := hD.sub (ws' := [(lk, .inr (9, [.ref ps, .ref sp, .ref wa, .ref rd, .int rc, .ref at_, .ref am, .ref ak, .ref ac, .ref an, .ref lp])), (wa, .inl (cPl, 4, .inr (.inr (.inr (.inr wf)))))]) [0, 1] (by decide) rfl
          have hK9 := hK.sub (tys' := [(cPl, .object RX7)]) [0] rfl
          exact W.iret (v := x_44) hx hb hr (fun t ht hW => ⟨⟨x_44, (), rfl, (by subst_vars; rfl), by rw [ht]; exact hP9, va_K.moved hW.alike hK9, hD9⟩, hS.F ht⟩) hS.2.2 dX4_waiters_33
        · skip
          refine W.eq (g2 := F0 m 16 ls [.ref y_43, .int x_40]) rfl ?_
          refine lv_ifnonnull (tgt := 23) hx hb dX4_waiters_16 (by decide) ?_
          refine lv_iconst (v := 1) hx hb dX4_waiters_23 (by decide) ?_
          refine lv_iadd hx hb dX4_waiters_24 ?_
          refine lv_topi (fun x_46 ex_46 => ?_)
          refine lv_istore_n (lv' := [(1, .int x_46), (2, .int 3), (0, .ref lk)]) hx hb dX4_waiters_25 rfl hl (by decide) rfl (fun ls hl => ?_)
          refine lv_iinc (v := 4) (lv' := [(2, .int 4), (1, .int x_46), (0, .ref lk)]) hx hb dX4_waiters_26 hl (k := 1) rfl (by decide) (by decide) rfl (fun ls hl => ?_)
          refine lv_goto (tgt := 4) hx hb dX4_waiters_29 (by decide) ?_
          refine lv_iload_n hx hb dX4_waiters_4 rfl (lv_at hl 0 rfl) ?_
          refine lv_iconst (v := 4) hx hb dX4_waiters_5 (by decide) ?_
          refine lv_icmp_ge (tgt := 32) hx hb dX4_waiters_6 (by decide) (fun _ => ?_) (fun c_47 => absurd (by decide) c_47)
          refine lv_iload_n hx hb dX4_waiters_32 rfl (lv_at hl 1 rfl) ?_
          have hP9 := hP.sub (ws' := [(lk, .inr (9, [.ref ps, .ref sp, .ref wa, .ref rd, .int rc, .ref at_, .ref am, .ref ak, .ref ac, .ref an, .ref lp])), (wa, .inl (cPl, 4, .inr (.inr (.inr (.inr wf)))))]) [0, 1] rfl
          have hD9 := hD.sub (ws' := [(lk, .inr (9, [.ref ps, .ref sp, .ref wa, .ref rd, .int rc, .ref at_, .ref am, .ref ak, .ref ac, .ref an, .ref lp])), (wa, .inl (cPl, 4, .inr (.inr (.inr (.inr wf)))))]) [0, 1] (by decide) rfl
          have hK9 := hK.sub (tys' := [(cPl, .object RX7)]) [0] rfl
          exact W.iret (v := x_46) hx hb hr (fun t ht hW => ⟨⟨x_46, (), rfl, (by subst_vars; rfl), by rw [ht]; exact hP9, va_K.moved hW.alike hK9, hD9⟩, hS.F ht⟩) hS.2.2 dX4_waiters_33
  · skip
    refine W.eq (g2 := F0 m 16 ls [.ref y_3, .int 0]) rfl ?_
    refine lv_ifnonnull (tgt := 23) hx hb dX4_waiters_16 (by decide) ?_
    refine lv_iconst (v := 1) hx hb dX4_waiters_23 (by decide) ?_
    refine lv_iadd hx hb dX4_waiters_24 ?_
    refine lv_topi (fun x_48 ex_48 => ?_)
    refine lv_istore_n (lv' := [(1, .int x_48), (2, .int 0), (0, .ref lk)]) hx hb dX4_waiters_25 rfl hl (by decide) rfl (fun ls hl => ?_)
    refine lv_iinc (v := 1) (lv' := [(2, .int 1), (1, .int x_48), (0, .ref lk)]) hx hb dX4_waiters_26 hl (k := 1) rfl (by decide) (by decide) rfl (fun ls hl => ?_)
    refine lv_goto (tgt := 4) hx hb dX4_waiters_29 (by decide) ?_
    refine lv_iload_n hx hb dX4_waiters_4 rfl (lv_at hl 0 rfl) ?_
    refine lv_iconst (v := 4) hx hb dX4_waiters_5 (by decide) ?_
    refine lv_icmp_ge (tgt := 32) hx hb dX4_waiters_6 (by decide) (fun c_49 => absurd c_49 (by decide)) (fun _ => ?_)
    refine lv_iload_n hx hb dX4_waiters_9 rfl (lv_at hl 1 rfl) ?_
    refine lv_aload_n hx hb dX4_waiters_10 rfl (lv_at hl 2 rfl) ?_
    refine va_get (D := (dC, dI)) (ci := 9) (v := .ref wa) (C := RX4) (T := TX4) (N := 11) hx hb hts (by decide +kernel) hown hK hP 0 rfl rfl 2 (by decide) (hts (.fieldLink RX4 23 "QueryHall$Locks" "waitsAt" "[LQueryHall$Place;") (by decide +kernel)) (fun _ h9 => h9) rfl dX4_waiters_11 ?_
    refine lv_iload_n hx hb dX4_waiters_14 rfl (lv_at hl 0 rfl) ?_
    refine va_aldq hx hb hK hP 1 0 rfl rfl (show ¬ ((1 : Int32) < 0 ∨ 4 ≤ (1 : Int32).toNatClampNeg) by decide) dX4_waiters_15 ?_
    rw [show (1 : Int32).toNatClampNeg = 1 from rfl]
    rcases hz_50 : wf 1 with _ | y_51
    · skip
      refine W.eq (g2 := F0 m 16 ls [.null, .int x_48]) rfl ?_
      refine lv_ifnonnullN hx hb dX4_waiters_16 ?_
      refine lv_iconst (v := 0) hx hb dX4_waiters_19 (by decide) ?_
      refine lv_goto (tgt := 24) hx hb dX4_waiters_20 (by decide) ?_
      refine lv_iadd hx hb dX4_waiters_24 ?_
      refine lv_topi (fun x_52 ex_52 => ?_)
      refine lv_istore_n (lv' := [(1, .int x_52), (2, .int 1), (0, .ref lk)]) hx hb dX4_waiters_25 rfl hl (by decide) rfl (fun ls hl => ?_)
      refine lv_iinc (v := 2) (lv' := [(2, .int 2), (1, .int x_52), (0, .ref lk)]) hx hb dX4_waiters_26 hl (k := 1) rfl (by decide) (by decide) rfl (fun ls hl => ?_)
      refine lv_goto (tgt := 4) hx hb dX4_waiters_29 (by decide) ?_
      refine lv_iload_n hx hb dX4_waiters_4 rfl (lv_at hl 0 rfl) ?_
      refine lv_iconst (v := 4) hx hb dX4_waiters_5 (by decide) ?_
      refine lv_icmp_ge (tgt := 32) hx hb dX4_waiters_6 (by decide) (fun c_53 => absurd c_53 (by decide)) (fun _ => ?_)
      refine lv_iload_n hx hb dX4_waiters_9 rfl (lv_at hl 1 rfl) ?_
      refine lv_aload_n hx hb dX4_waiters_10 rfl (lv_at hl 2 rfl) ?_
      refine va_get (D := (dC, dI)) (ci := 9) (v := .ref wa) (C := RX4) (T := TX4) (N := 11) hx hb hts (by decide +kernel) hown hK hP 0 rfl rfl 2 (by decide) (hts (.fieldLink RX4 23 "QueryHall$Locks" "waitsAt" "[LQueryHall$Place;") (by decide +kernel)) (fun _ h9 => h9) rfl dX4_waiters_11 ?_
      refine lv_iload_n hx hb dX4_waiters_14 rfl (lv_at hl 0 rfl) ?_
      refine va_aldq hx hb hK hP 1 0 rfl rfl (show ¬ ((2 : Int32) < 0 ∨ 4 ≤ (2 : Int32).toNatClampNeg) by decide) dX4_waiters_15 ?_
      rw [show (2 : Int32).toNatClampNeg = 2 from rfl]
      rcases hz_54 : wf 2 with _ | y_55
      · skip
        refine W.eq (g2 := F0 m 16 ls [.null, .int x_52]) rfl ?_
        refine lv_ifnonnullN hx hb dX4_waiters_16 ?_
        refine lv_iconst (v := 0) hx hb dX4_waiters_19 (by decide) ?_
        refine lv_goto (tgt := 24) hx hb dX4_waiters_20 (by decide) ?_
        refine lv_iadd hx hb dX4_waiters_24 ?_
        refine lv_topi (fun x_56 ex_56 => ?_)
        refine lv_istore_n (lv' := [(1, .int x_56), (2, .int 2), (0, .ref lk)]) hx hb dX4_waiters_25 rfl hl (by decide) rfl (fun ls hl => ?_)
        refine lv_iinc (v := 3) (lv' := [(2, .int 3), (1, .int x_56), (0, .ref lk)]) hx hb dX4_waiters_26 hl (k := 1) rfl (by decide) (by decide) rfl (fun ls hl => ?_)
        refine lv_goto (tgt := 4) hx hb dX4_waiters_29 (by decide) ?_
        refine lv_iload_n hx hb dX4_waiters_4 rfl (lv_at hl 0 rfl) ?_
        refine lv_iconst (v := 4) hx hb dX4_waiters_5 (by decide) ?_
        refine lv_icmp_ge (tgt := 32) hx hb dX4_waiters_6 (by decide) (fun c_57 => absurd c_57 (by decide)) (fun _ => ?_)
        refine lv_iload_n hx hb dX4_waiters_9 rfl (lv_at hl 1 rfl) ?_
        refine lv_aload_n hx hb dX4_waiters_10 rfl (lv_at hl 2 rfl) ?_
        refine va_get (D := (dC, dI)) (ci := 9) (v := .ref wa) (C := RX4) (T := TX4) (N := 11) hx hb hts (by decide +kernel) hown hK hP 0 rfl rfl 2 (by decide) (hts (.fieldLink RX4 23 "QueryHall$Locks" "waitsAt" "[LQueryHall$Place;") (by decide +kernel)) (fun _ h9 => h9) rfl dX4_waiters_11 ?_
        refine lv_iload_n hx hb dX4_waiters_14 rfl (lv_at hl 0 rfl) ?_
        refine va_aldq hx hb hK hP 1 0 rfl rfl (show ¬ ((3 : Int32) < 0 ∨ 4 ≤ (3 : Int32).toNatClampNeg) by decide) dX4_waiters_15 ?_
        rw [show (3 : Int32).toNatClampNeg = 3 from rfl]
        rcases hz_58 : wf 3 with _ | y_59
        · skip
          refine W.eq (g2 := F0 m 16 ls [.null, .int x_56]) rfl ?_
          refine lv_ifnonnullN hx hb dX4_waiters_16 ?_
          refine lv_iconst (v := 0) hx hb dX4_waiters_19 (by decide) ?_
          refine lv_goto (tgt := 24) hx hb dX4_waiters_20 (by decide) ?_
          refine lv_iadd hx hb dX4_waiters_24 ?_
          refine lv_topi (fun x_60 ex_60 => ?_)
          refine lv_istore_n (lv' := [(1, .int x_60), (2, .int 3), (0, .ref lk)]) hx hb dX4_waiters_25 rfl hl (by decide) rfl (fun ls hl => ?_)
          refine lv_iinc (v := 4) (lv' := [(2, .int 4), (1, .int x_60), (0, .ref lk)]) hx hb dX4_waiters_26 hl (k := 1) rfl (by decide) (by decide) rfl (fun ls hl => ?_)
          refine lv_goto (tgt := 4) hx hb dX4_waiters_29 (by decide) ?_
          refine lv_iload_n hx hb dX4_waiters_4 rfl (lv_at hl 0 rfl) ?_
          refine lv_iconst (v := 4) hx hb dX4_waiters_5 (by decide) ?_
          refine lv_icmp_ge (tgt := 32) hx hb dX4_waiters_6 (by decide) (fun _ => ?_) (fun c_61 => absurd (by decide) c_61)
          refine lv_iload_n hx hb dX4_waiters_32 rfl (lv_at hl 1 rfl) ?_
          have hP9 := hP.sub (ws' := [(lk, .inr (9, [.ref ps, .ref sp, .ref wa, .ref rd, .int rc, .ref at_, .ref am, .ref ak, .ref ac, .ref an, .ref lp])), (wa, .inl (cPl, 4, .inr (.inr (.inr (.inr wf)))))]) [0, 1] rfl
          have hD9 := hD.sub (ws' := [(lk, .inr (9, [.ref ps, .ref sp, .ref wa, .ref rd, .int rc, .ref at_, .ref am, .ref ak, .ref ac, .ref an, .ref lp])), (wa, .inl (cPl, 4, .inr (.inr (.inr (.inr wf)))))]) [0, 1] (by decide) rfl
          have hK9 := hK.sub (tys' := [(cPl, .object RX7)]) [0] rfl
          exact W.iret (v := x_60) hx hb hr (fun t ht hW => ⟨⟨x_60, (), rfl, (by subst_vars; rfl), by rw [ht]; exact hP9, va_K.moved hW.alike hK9, hD9⟩, hS.F ht⟩) hS.2.2 dX4_waiters_33
        · skip
          refine W.eq (g2 := F0 m 16 ls [.ref y_59, .int x_56]) rfl ?_
          refine lv_ifnonnull (tgt := 23) hx hb dX4_waiters_16 (by decide) ?_
          refine lv_iconst (v := 1) hx hb dX4_waiters_23 (by decide) ?_
          refine lv_iadd hx hb dX4_waiters_24 ?_
          refine lv_topi (fun x_62 ex_62 => ?_)
          refine lv_istore_n (lv' := [(1, .int x_62), (2, .int 3), (0, .ref lk)]) hx hb dX4_waiters_25 rfl hl (by decide) rfl (fun ls hl => ?_)
          refine lv_iinc (v := 4) (lv' := [(2, .int 4), (1, .int x_62), (0, .ref lk)]) hx hb dX4_waiters_26 hl (k := 1) rfl (by decide) (by decide) rfl (fun ls hl => ?_)
          refine lv_goto (tgt := 4) hx hb dX4_waiters_29 (by decide) ?_
          refine lv_iload_n hx hb dX4_waiters_4 rfl (lv_at hl 0 rfl) ?_
          refine lv_iconst (v := 4) hx hb dX4_waiters_5 (by decide) ?_
          refine lv_icmp_ge (tgt := 32) hx hb dX4_waiters_6 (by decide) (fun _ => ?_) (fun c_63 => absurd (by decide) c_63)
          refine lv_iload_n hx hb dX4_waiters_32 rfl (lv_at hl 1 rfl) ?_
          have hP9 := hP.sub (ws' := [(lk, .inr (9, [.ref ps, .ref sp, .ref wa, .ref rd, .int rc, .ref at_, .ref am, .ref ak, .ref ac, .ref an, .ref lp])), (wa, .inl (cPl, 4, .inr (.inr (.inr (.inr wf)))))]) [0, 1] rfl
          have hD9 := hD.sub (ws' := [(lk, .inr (9, [.ref ps, .ref sp, .ref wa, .ref rd, .int rc, .ref at_, .ref am, .ref ak, .ref ac, .ref an, .ref lp])), (wa, .inl (cPl, 4, .inr (.inr (.inr (.inr wf)))))]) [0, 1] (by decide) rfl
          have hK9 := hK.sub (tys' := [(cPl, .object RX7)]) [0] rfl
          exact W.iret (v := x_62) hx hb hr (fun t ht hW => ⟨⟨x_62, (), rfl, (by subst_vars; rfl), by rw [ht]; exact hP9, va_K.moved hW.alike hK9, hD9⟩, hS.F ht⟩) hS.2.2 dX4_waiters_33
      · skip
        refine W.eq (g2 := F0 m 16 ls [.ref y_55, .int x_52]) rfl ?_
        refine lv_ifnonnull (tgt := 23) hx hb dX4_waiters_16 (by decide) ?_
        refine lv_iconst (v := 1) hx hb dX4_waiters_23 (by decide) ?_
        refine lv_iadd hx hb dX4_waiters_24 ?_
        refine lv_topi (fun x_64 ex_64 => ?_)
        refine lv_istore_n (lv' := [(1, .int x_64), (2, .int 2), (0, .ref lk)]) hx hb dX4_waiters_25 rfl hl (by decide) rfl (fun ls hl => ?_)
        refine lv_iinc (v := 3) (lv' := [(2, .int 3), (1, .int x_64), (0, .ref lk)]) hx hb dX4_waiters_26 hl (k := 1) rfl (by decide) (by decide) rfl (fun ls hl => ?_)
        refine lv_goto (tgt := 4) hx hb dX4_waiters_29 (by decide) ?_
        refine lv_iload_n hx hb dX4_waiters_4 rfl (lv_at hl 0 rfl) ?_
        refine lv_iconst (v := 4) hx hb dX4_waiters_5 (by decide) ?_
        refine lv_icmp_ge (tgt := 32) hx hb dX4_waiters_6 (by decide) (fun c_65 => absurd c_65 (by decide)) (fun _ => ?_)
        refine lv_iload_n hx hb dX4_waiters_9 rfl (lv_at hl 1 rfl) ?_
        refine lv_aload_n hx hb dX4_waiters_10 rfl (lv_at hl 2 rfl) ?_
        refine va_get (D := (dC, dI)) (ci := 9) (v := .ref wa) (C := RX4) (T := TX4) (N := 11) hx hb hts (by decide +kernel) hown hK hP 0 rfl rfl 2 (by decide) (hts (.fieldLink RX4 23 "QueryHall$Locks" "waitsAt" "[LQueryHall$Place;") (by decide +kernel)) (fun _ h9 => h9) rfl dX4_waiters_11 ?_
        refine lv_iload_n hx hb dX4_waiters_14 rfl (lv_at hl 0 rfl) ?_
        refine va_aldq hx hb hK hP 1 0 rfl rfl (show ¬ ((3 : Int32) < 0 ∨ 4 ≤ (3 : Int32).toNatClampNeg) by decide) dX4_waiters_15 ?_
        rw [show (3 : Int32).toNatClampNeg = 3 from rfl]
        rcases hz_66 : wf 3 with _ | y_67
        · skip
          refine W.eq (g2 := F0 m 16 ls [.null, .int x_64]) rfl ?_
          refine lv_ifnonnullN hx hb dX4_waiters_16 ?_
          refine lv_iconst (v := 0) hx hb dX4_waiters_19 (by decide) ?_
          refine lv_goto (tgt := 24) hx hb dX4_waiters_20 (by decide) ?_
          refine lv_iadd hx hb dX4_waiters_24 ?_
          refine lv_topi (fun x_68 ex_68 => ?_)
          refine lv_istore_n (lv' := [(1, .int x_68), (2, .int 3), (0, .ref lk)]) hx hb dX4_waiters_25 rfl hl (by decide) rfl (fun ls hl => ?_)
          refine lv_iinc (v := 4) (lv' := [(2, .int 4), (1, .int x_68), (0, .ref lk)]) hx hb dX4_waiters_26 hl (k := 1) rfl (by decide) (by decide) rfl (fun ls hl => ?_)
          refine lv_goto (tgt := 4) hx hb dX4_waiters_29 (by decide) ?_
          refine lv_iload_n hx hb dX4_waiters_4 rfl (lv_at hl 0 rfl) ?_
          refine lv_iconst (v := 4) hx hb dX4_waiters_5 (by decide) ?_
          refine lv_icmp_ge (tgt := 32) hx hb dX4_waiters_6 (by decide) (fun _ => ?_) (fun c_69 => absurd (by decide) c_69)
          refine lv_iload_n hx hb dX4_waiters_32 rfl (lv_at hl 1 rfl) ?_
          have hP9 := hP.sub (ws' := [(lk, .inr (9, [.ref ps, .ref sp, .ref wa, .ref rd, .int rc, .ref at_, .ref am, .ref ak, .ref ac, .ref an, .ref lp])), (wa, .inl (cPl, 4, .inr (.inr (.inr (.inr wf)))))]) [0, 1] rfl
          have hD9 := hD.sub (ws' := [(lk, .inr (9, [.ref ps, .ref sp, .ref wa, .ref rd, .int rc, .ref at_, .ref am, .ref ak, .ref ac, .ref an, .ref lp])), (wa, .inl (cPl, 4, .inr (.inr (.inr (.inr wf)))))]) [0, 1] (by decide) rfl
          have hK9 := hK.sub (tys' := [(cPl, .object RX7)]) [0] rfl
          exact W.iret (v := x_68) hx hb hr (fun t ht hW => ⟨⟨x_68, (), rfl, (by subst_vars; rfl), by rw [ht]; exact hP9, va_K.moved hW.alike hK9, hD9⟩, hS.F ht⟩) hS.2.2 dX4_waiters_33
        · skip
          refine W.eq (g2 := F0 m 16 ls [.ref y_67, .int x_64]) rfl ?_
          refine lv_ifnonnull (tgt := 23) hx hb dX4_waiters_16 (by decide) ?_
          refine lv_iconst (v := 1) hx hb dX4_waiters_23 (by decide) ?_
          refine lv_iadd hx hb dX4_waiters_24 ?_
          refine lv_topi (fun x_70 ex_70 => ?_)
          refine lv_istore_n (lv' := [(1, .int x_70), (2, .int 3), (0, .ref lk)]) hx hb dX4_waiters_25 rfl hl (by decide) rfl (fun ls hl => ?_)
          refine lv_iinc (v := 4) (lv' := [(2, .int 4), (1, .int x_70), (0, .ref lk)]) hx hb dX4_waiters_26 hl (k := 1) rfl (by decide) (by decide) rfl (fun ls hl => ?_)
          refine lv_goto (tgt := 4) hx hb dX4_waiters_29 (by decide) ?_
          refine lv_iload_n hx hb dX4_waiters_4 rfl (lv_at hl 0 rfl) ?_
          refine lv_iconst (v := 4) hx hb dX4_waiters_5 (by decide) ?_
          refine lv_icmp_ge (tgt := 32) hx hb dX4_waiters_6 (by decide) (fun _ => ?_) (fun c_71 => absurd (by decide) c_71)
          refine lv_iload_n hx hb dX4_waiters_32 rfl (lv_at hl 1 rfl) ?_
          have hP9 := hP.sub (ws' := [(lk, .inr (9, [.ref ps, .ref sp, .ref wa, .ref rd, .int rc, .ref at_, .ref am, .ref ak, .ref ac, .ref an, .ref lp])), (wa, .inl (cPl, 4, .inr (.inr (.inr (.inr wf)))))]) [0, 1] rfl
          have hD9 := hD.sub (ws' := [(lk, .inr (9, [.ref ps, .ref sp, .ref wa, .ref rd, .int rc, .ref at_, .ref am, .ref ak, .ref ac, .ref an, .ref lp])), (wa, .inl (cPl, 4, .inr (.inr (.inr (.inr wf)))))]) [0, 1] (by decide) rfl
          have hK9 := hK.sub (tys' := [(cPl, .object RX7)]) [0] rfl
          exact W.iret (v := x_70) hx hb hr (fun t ht hW => ⟨⟨x_70, (), rfl, (by subst_vars; rfl), by rw [ht]; exact hP9, va_K.moved hW.alike hK9, hD9⟩, hS.F ht⟩) hS.2.2 dX4_waiters_33
    · skip
      refine W.eq (g2 := F0 m 16 ls [.ref y_51, .int x_48]) rfl ?_
      refine lv_ifnonnull (tgt := 23) hx hb dX4_waiters_16 (by decide) ?_
      refine lv_iconst (v := 1) hx hb dX4_waiters_23 (by decide) ?_
      refine lv_iadd hx hb dX4_waiters_24 ?_
      refine lv_topi (fun x_72 ex_72 => ?_)
      refine lv_istore_n (lv' := [(1, .int x_72), (2, .int 1), (0, .ref lk)]) hx hb dX4_waiters_25 rfl hl (by decide) rfl (fun ls hl => ?_)
      refine lv_iinc (v := 2) (lv' := [(2, .int 2), (1, .int x_72), (0, .ref lk)]) hx hb dX4_waiters_26 hl (k := 1) rfl (by decide) (by decide) rfl (fun ls hl => ?_)
      refine lv_goto (tgt := 4) hx hb dX4_waiters_29 (by decide) ?_
      refine lv_iload_n hx hb dX4_waiters_4 rfl (lv_at hl 0 rfl) ?_
      refine lv_iconst (v := 4) hx hb dX4_waiters_5 (by decide) ?_
      refine lv_icmp_ge (tgt := 32) hx hb dX4_waiters_6 (by decide) (fun c_73 => absurd c_73 (by decide)) (fun _ => ?_)
      refine lv_iload_n hx hb dX4_waiters_9 rfl (lv_at hl 1 rfl) ?_
      refine lv_aload_n hx hb dX4_waiters_10 rfl (lv_at hl 2 rfl) ?_
      refine va_get (D := (dC, dI)) (ci := 9) (v := .ref wa) (C := RX4) (T := TX4) (N := 11) hx hb hts (by decide +kernel) hown hK hP 0 rfl rfl 2 (by decide) (hts (.fieldLink RX4 23 "QueryHall$Locks" "waitsAt" "[LQueryHall$Place;") (by decide +kernel)) (fun _ h9 => h9) rfl dX4_waiters_11 ?_
      refine lv_iload_n hx hb dX4_waiters_14 rfl (lv_at hl 0 rfl) ?_
      refine va_aldq hx hb hK hP 1 0 rfl rfl (show ¬ ((2 : Int32) < 0 ∨ 4 ≤ (2 : Int32).toNatClampNeg) by decide) dX4_waiters_15 ?_
      rw [show (2 : Int32).toNatClampNeg = 2 from rfl]
      rcases hz_74 : wf 2 with _ | y_75
      · skip
        refine W.eq (g2 := F0 m 16 ls [.null, .int x_72]) rfl ?_
        refine lv_ifnonnullN hx hb dX4_waiters_16 ?_
        refine lv_iconst (v := 0) hx hb dX4_waiters_19 (by decide) ?_
        refine lv_goto (tgt := 24) hx hb dX4_waiters_20 (by decide) ?_
        refine lv_iadd hx hb dX4_waiters_24 ?_
        refine lv_topi (fun x_76 ex_76 => ?_)
        refine lv_istore_n (lv' := [(1, .int x_76), (2, .int 2), (0, .ref lk)]) hx hb dX4_waiters_25 rfl hl (by decide) rfl (fun ls hl => ?_)
        refine lv_iinc (v := 3) (lv' := [(2, .int 3), (1, .int x_76), (0, .ref lk)]) hx hb dX4_waiters_26 hl (k := 1) rfl (by decide) (by decide) rfl (fun ls hl => ?_)
        refine lv_goto (tgt := 4) hx hb dX4_waiters_29 (by decide) ?_
        refine lv_iload_n hx hb dX4_waiters_4 rfl (lv_at hl 0 rfl) ?_
        refine lv_iconst (v := 4) hx hb dX4_waiters_5 (by decide) ?_
        refine lv_icmp_ge (tgt := 32) hx hb dX4_waiters_6 (by decide) (fun c_77 => absurd c_77 (by decide)) (fun _ => ?_)
        refine lv_iload_n hx hb dX4_waiters_9 rfl (lv_at hl 1 rfl) ?_
        refine lv_aload_n hx hb dX4_waiters_10 rfl (lv_at hl 2 rfl) ?_
        refine va_get (D := (dC, dI)) (ci := 9) (v := .ref wa) (C := RX4) (T := TX4) (N := 11) hx hb hts (by decide +kernel) hown hK hP 0 rfl rfl 2 (by decide) (hts (.fieldLink RX4 23 "QueryHall$Locks" "waitsAt" "[LQueryHall$Place;") (by decide +kernel)) (fun _ h9 => h9) rfl dX4_waiters_11 ?_
        refine lv_iload_n hx hb dX4_waiters_14 rfl (lv_at hl 0 rfl) ?_
        refine va_aldq hx hb hK hP 1 0 rfl rfl (show ¬ ((3 : Int32) < 0 ∨ 4 ≤ (3 : Int32).toNatClampNeg) by decide) dX4_waiters_15 ?_
        rw [show (3 : Int32).toNatClampNeg = 3 from rfl]
        rcases hz_78 : wf 3 with _ | y_79
        · skip
          refine W.eq (g2 := F0 m 16 ls [.null, .int x_76]) rfl ?_
          refine lv_ifnonnullN hx hb dX4_waiters_16 ?_
          refine lv_iconst (v := 0) hx hb dX4_waiters_19 (by decide) ?_
          refine lv_goto (tgt := 24) hx hb dX4_waiters_20 (by decide) ?_
          refine lv_iadd hx hb dX4_waiters_24 ?_
          refine lv_topi (fun x_80 ex_80 => ?_)
          refine lv_istore_n (lv' := [(1, .int x_80), (2, .int 3), (0, .ref lk)]) hx hb dX4_waiters_25 rfl hl (by decide) rfl (fun ls hl => ?_)
          refine lv_iinc (v := 4) (lv' := [(2, .int 4), (1, .int x_80), (0, .ref lk)]) hx hb dX4_waiters_26 hl (k := 1) rfl (by decide) (by decide) rfl (fun ls hl => ?_)
          refine lv_goto (tgt := 4) hx hb dX4_waiters_29 (by decide) ?_
          refine lv_iload_n hx hb dX4_waiters_4 rfl (lv_at hl 0 rfl) ?_
          refine lv_iconst (v := 4) hx hb dX4_waiters_5 (by decide) ?_
          refine lv_icmp_ge (tgt := 32) hx hb dX4_waiters_6 (by decide) (fun _ => ?_) (fun c_81 => absurd (by decide) c_81)
          refine lv_iload_n hx hb dX4_waiters_32 rfl (lv_at hl 1 rfl) ?_
          have hP9 := hP.sub (ws' := [(lk, .inr (9, [.ref ps, .ref sp, .ref wa, .ref rd, .int rc, .ref at_, .ref am, .ref ak, .ref ac, .ref an, .ref lp])), (wa, .inl (cPl, 4, .inr (.inr (.inr (.inr wf)))))]) [0, 1] rfl
          have hD9 := hD.sub (ws' := [(lk, .inr (9, [.ref ps, .ref sp, .ref wa, .ref rd, .int rc, .ref at_, .ref am, .ref ak, .ref ac, .ref an, .ref lp])), (wa, .inl (cPl, 4, .inr (.inr (.inr (.inr wf)))))]) [0, 1] (by decide) rfl
          have hK9 := hK.sub (tys' := [(cPl, .object RX7)]) [0] rfl
          exact W.iret (v := x_80) hx hb hr (fun t ht hW => ⟨⟨x_80, (), rfl, (by subst_vars; rfl), by rw [ht]; exact hP9, va_K.moved hW.alike hK9, hD9⟩, hS.F ht⟩) hS.2.2 dX4_waiters_33
        · skip
          refine W.eq (g2 := F0 m 16 ls [.ref y_79, .int x_76]) rfl ?_
          refine lv_ifnonnull (tgt := 23) hx hb dX4_waiters_16 (by decide) ?_
          refine lv_iconst (v := 1) hx hb dX4_waiters_23 (by decide) ?_
          refine lv_iadd hx hb dX4_waiters_24 ?_
          refine lv_topi (fun x_82 ex_82 => ?_)
          refine lv_istore_n (lv' := [(1, .int x_82), (2, .int 3), (0, .ref lk)]) hx hb dX4_waiters_25 rfl hl (by decide) rfl (fun ls hl => ?_)
          refine lv_iinc (v := 4) (lv' := [(2, .int 4), (1, .int x_82), (0, .ref lk)]) hx hb dX4_waiters_26 hl (k := 1) rfl (by decide) (by decide) rfl (fun ls hl => ?_)
          refine lv_goto (tgt := 4) hx hb dX4_waiters_29 (by decide) ?_
          refine lv_iload_n hx hb dX4_waiters_4 rfl (lv_at hl 0 rfl) ?_
          refine lv_iconst (v := 4) hx hb dX4_waiters_5 (by decide) ?_
          refine lv_icmp_ge (tgt := 32) hx hb dX4_waiters_6 (by decide) (fun _ => ?_) (fun c_83 => absurd (by decide) c_83)
          refine lv_iload_n hx hb dX4_waiters_32 rfl (lv_at hl 1 rfl) ?_
          have hP9 := hP.sub (ws' := [(lk, .inr (9, [.ref ps, .ref sp, .ref wa, .ref rd, .int rc, .ref at_, .ref am, .ref ak, .ref ac, .ref an, .ref lp])), (wa, .inl (cPl, 4, .inr (.inr (.inr (.inr wf)))))]) [0, 1] rfl
          have hD9 := hD.sub (ws' := [(lk, .inr (9, [.ref ps, .ref sp, .ref wa, .ref rd, .int rc, .ref at_, .ref am, .ref ak, .ref ac, .ref an, .ref lp])), (wa, .inl (cPl, 4, .inr (.inr (.inr (.inr wf)))))]) [0, 1] (by decide) rfl
          have hK9 := hK.sub (tys' := [(cPl, .object RX7)]) [0] rfl
          exact W.iret (v := x_82) hx hb hr (fun t ht hW => ⟨⟨x_82, (), rfl, (by subst_vars; rfl), by rw [ht]; exact hP9, va_K.moved hW.alike hK9, hD9⟩, hS.F ht⟩) hS.2.2 dX4_waiters_33
      · skip
        refine W.eq (g2 := F0 m 16 ls [.ref y_75, .int x_72]) rfl ?_
        refine lv_ifnonnull (tgt := 23) hx hb dX4_waiters_16 (by decide) ?_
        refine lv_iconst (v := 1) hx hb dX4_waiters_23 (by decide) ?_
        refine lv_iadd hx hb dX4_waiters_24 ?_
        refine lv_topi (fun x_84 ex_84 => ?_)
        refine lv_istore_n (lv' := [(1, .int x_84), (2, .int 2), (0, .ref lk)]) hx hb dX4_waiters_25 rfl hl (by decide) rfl (fun ls hl => ?_)
        refine lv_iinc (v := 3) (lv' := [(2, .int 3), (1, .int x_84), (0, .ref lk)]) hx hb dX4_waiters_26 hl (k := 1) rfl (by decide) (by decide) rfl (fun ls hl => ?_)
        refine lv_goto (tgt := 4) hx hb dX4_waiters_29 (by decide) ?_
        refine lv_iload_n hx hb dX4_waiters_4 rfl (lv_at hl 0 rfl) ?_
        refine lv_iconst (v := 4) hx hb dX4_waiters_5 (by decide) ?_
        refine lv_icmp_ge (tgt := 32) hx hb dX4_waiters_6 (by decide) (fun c_85 => absurd c_85 (by decide)) (fun _ => ?_)
        refine lv_iload_n hx hb dX4_waiters_9 rfl (lv_at hl 1 rfl) ?_
        refine lv_aload_n hx hb dX4_waiters_10 rfl (lv_at hl 2 rfl) ?_
        refine va_get (D := (dC, dI)) (ci := 9) (v := .ref wa) (C := RX4) (T := TX4) (N := 11) hx hb hts (by decide +kernel) hown hK hP 0 rfl rfl 2 (by decide) (hts (.fieldLink RX4 23 "QueryHall$Locks" "waitsAt" "[LQueryHall$Place;") (by decide +kernel)) (fun _ h9 => h9) rfl dX4_waiters_11 ?_
        refine lv_iload_n hx hb dX4_waiters_14 rfl (lv_at hl 0 rfl) ?_
        refine va_aldq hx hb hK hP 1 0 rfl rfl (show ¬ ((3 : Int32) < 0 ∨ 4 ≤ (3 : Int32).toNatClampNeg) by decide) dX4_waiters_15 ?_
        rw [show (3 : Int32).toNatClampNeg = 3 from rfl]
        rcases hz_86 : wf 3 with _ | y_87
        · skip
          refine W.eq (g2 := F0 m 16 ls [.null, .int x_84]) rfl ?_
          refine lv_ifnonnullN hx hb dX4_waiters_16 ?_
          refine lv_iconst (v := 0) hx hb dX4_waiters_19 (by decide) ?_
          refine lv_goto (tgt := 24) hx hb dX4_waiters_20 (by decide) ?_
          refine lv_iadd hx hb dX4_waiters_24 ?_
          refine lv_topi (fun x_88 ex_88 => ?_)
          refine lv_istore_n (lv' := [(1, .int x_88), (2, .int 3), (0, .ref lk)]) hx hb dX4_waiters_25 rfl hl (by decide) rfl (fun ls hl => ?_)
          refine lv_iinc (v := 4) (lv' := [(2, .int 4), (1, .int x_88), (0, .ref lk)]) hx hb dX4_waiters_26 hl (k := 1) rfl (by decide) (by decide) rfl (fun ls hl => ?_)
          refine lv_goto (tgt := 4) hx hb dX4_waiters_29 (by decide) ?_
          refine lv_iload_n hx hb dX4_waiters_4 rfl (lv_at hl 0 rfl) ?_
          refine lv_iconst (v := 4) hx hb dX4_waiters_5 (by decide) ?_
          refine lv_icmp_ge (tgt := 32) hx hb dX4_waiters_6 (by decide) (fun _ => ?_) (fun c_89 => absurd (by decide) c_89)
          refine lv_iload_n hx hb dX4_waiters_32 rfl (lv_at hl 1 rfl) ?_
          have hP9 := hP.sub (ws' := [(lk, .inr (9, [.ref ps, .ref sp, .ref wa, .ref rd, .int rc, .ref at_, .ref am, .ref ak, .ref ac, .ref an, .ref lp])), (wa, .inl (cPl, 4, .inr (.inr (.inr (.inr wf)))))]) [0, 1] rfl
          have hD9 := hD.sub (ws' := [(lk, .inr (9, [.ref ps, .ref sp, .ref wa, .ref rd, .int rc, .ref at_, .ref am, .ref ak, .ref ac, .ref an, .ref lp])), (wa, .inl (cPl, 4, .inr (.inr (.inr (.inr wf)))))]) [0, 1] (by decide) rfl
          have hK9 := hK.sub (tys' := [(cPl, .object RX7)]) [0] rfl
          exact W.iret (v := x_88) hx hb hr (fun t ht hW => ⟨⟨x_88, (), rfl, (by subst_vars; rfl), by rw [ht]; exact hP9, va_K.moved hW.alike hK9, hD9⟩, hS.F ht⟩) hS.2.2 dX4_waiters_33
        · skip
          refine W.eq (g2 := F0 m 16 ls [.ref y_87, .int x_84]) rfl ?_
          refine lv_ifnonnull (tgt := 23) hx hb dX4_waiters_16 (by decide) ?_
          refine lv_iconst (v := 1) hx hb dX4_waiters_23 (by decide) ?_
          refine lv_iadd hx hb dX4_waiters_24 ?_
          refine lv_topi (fun x_90 ex_90 => ?_)
          refine lv_istore_n (lv' := [(1, .int x_90), (2, .int 3), (0, .ref lk)]) hx hb dX4_waiters_25 rfl hl (by decide) rfl (fun ls hl => ?_)
          refine lv_iinc (v := 4) (lv' := [(2, .int 4), (1, .int x_90), (0, .ref lk)]) hx hb dX4_waiters_26 hl (k := 1) rfl (by decide) (by decide) rfl (fun ls hl => ?_)
          refine lv_goto (tgt := 4) hx hb dX4_waiters_29 (by decide) ?_
          refine lv_iload_n hx hb dX4_waiters_4 rfl (lv_at hl 0 rfl) ?_
          refine lv_iconst (v := 4) hx hb dX4_waiters_5 (by decide) ?_
          refine lv_icmp_ge (tgt := 32) hx hb dX4_waiters_6 (by decide) (fun _ => ?_) (fun c_91 => absurd (by decide) c_91)
          refine lv_iload_n hx hb dX4_waiters_32 rfl (lv_at hl 1 rfl) ?_
          have hP9 := hP.sub (ws' := [(lk, .inr (9, [.ref ps, .ref sp, .ref wa, .ref rd, .int rc, .ref at_, .ref am, .ref ak, .ref ac, .ref an, .ref lp])), (wa, .inl (cPl, 4, .inr (.inr (.inr (.inr wf)))))]) [0, 1] rfl
          have hD9 := hD.sub (ws' := [(lk, .inr (9, [.ref ps, .ref sp, .ref wa, .ref rd, .int rc, .ref at_, .ref am, .ref ak, .ref ac, .ref an, .ref lp])), (wa, .inl (cPl, 4, .inr (.inr (.inr (.inr wf)))))]) [0, 1] (by decide) rfl
          have hK9 := hK.sub (tys' := [(cPl, .object RX7)]) [0] rfl
          exact W.iret (v := x_90) hx hb hr (fun t ht hW => ⟨⟨x_90, (), rfl, (by subst_vars; rfl), by rw [ht]; exact hP9, va_K.moved hW.alike hK9, hD9⟩, hS.F ht⟩) hS.2.2 dX4_waiters_33
set_option maxHeartbeats 4000000 in
set_option maxRecDepth 100000 in
/-- told(what) -/
theorem c_X12_told (l : Launch) (dC : Nat → ClassId) (dI : Nat → Nat → Nat) (sz : Nat) (h0 ss tb pa ck ev pn lk jo orw nrw : Nat) (g10 g11 g12 g13 g14 g15 : Int32) (jk jt jn ju jp jb ja jl jr : Nat) (j10 j11 j12 j13 j14 j15 : Int32) (ps sp wa rd at_ am ak ac an lp : Nat) (rc : Int32) (cPl : ClassId) (wf : Nat → Option Nat) (p0 : Int32) : Met l yX12_told wsX12_told ({ frames := 1, cells := 0, slots := 0, locals := 30 }) (va_Pc [.ref h0, .int p0] (fun U => U.heap.size = sz ∧ va_P (dC, dI) vwCl [(h0, .inr (17, [.ref ss, .ref tb, .ref pa, .ref ck, .ref ev, .ref pn, .ref lk, .ref jo, .ref orw, .ref nrw, .int g10, .int g11, .int g12, .int g13, .int g14, .int g15])), (jo, .inr (10, [.ref tb, .ref jk, .ref jt, .ref jn, .ref ju, .ref jp, .ref jb, .ref ja, .ref jl, .ref jr, .int j10, .int j11, .int j12, .int j13, .int j14, .int j15])), (lk, .inr (9, [.ref ps, .ref sp, .ref wa, .ref rd, .int rc, .ref at_, .ref am, .ref ak, .ref ac, .ref an, .ref lp])), (wa, .inl (cPl, 4, .inr (.inr (.inr (.inr wf)))))] U.heap ∧ va_K (dC, dI) vwCl [(cPl, .object RX7)] U ∧ va_D (fun _ => True) [(h0, .inr (17, [.ref ss, .ref tb, .ref pa, .ref ck, .ref ev, .ref pn, .ref lk, .ref jo, .ref orw, .ref nrw, .int g10, .int g11, .int g12, .int g13, .int g14, .int g15])), (jo, .inr (10, [.ref tb, .ref jk, .ref jt, .ref jn, .ref ju, .ref jp, .ref jb, .ref ja, .ref jl, .ref jr, .int j10, .int j11, .int j12, .int j13, .int j14, .int j15])), (lk, .inr (9, [.ref ps, .ref sp, .ref wa, .ref rd, .int rc, .ref at_, .ref am, .ref ak, .ref ac, .ref an, .ref lp])), (wa, .inl (cPl, 4, .inr (.inr (.inr (.inr wf)))))])) (va_Qi (fun (r : Int32) (_ : Unit) => r = (if p0 = 0 then g11 else if p0 = 1 then g12 else if p0 = 2 then j11 else if p0 = 3 then j13 else if p0 = 4 then j12 else if p0 = 5 then (if g14 = 0 then 0 else 1) else if p0 = 6 then g13 else if p0 = 7 then 0 + qh_nn (wf 0) + qh_nn (wf 1) + qh_nn (wf 2) + qh_nn (wf 3) else -1)) (fun (_ : Unit) (t : State) => va_P (dC, dI) vwCl [(h0, .inr (17, [.ref ss, .ref tb, .ref pa, .ref ck, .ref ev, .ref pn, .ref lk, .ref jo, .ref orw, .ref nrw, .int g10, .int g11, .int g12, .int g13, .int g14, .int g15])), (jo, .inr (10, [.ref tb, .ref jk, .ref jt, .ref jn, .ref ju, .ref jp, .ref jb, .ref ja, .ref jl, .ref jr, .int j10, .int j11, .int j12, .int j13, .int j14, .int j15])), (lk, .inr (9, [.ref ps, .ref sp, .ref wa, .ref rd, .int rc, .ref at_, .ref am, .ref ak, .ref ac, .ref an, .ref lp])), (wa, .inl (cPl, 4, .inr (.inr (.inr (.inr wf)))))] t.heap ∧ va_K (dC, dI) vwCl [(cPl, .object RX7)] t ∧ va_D (va_A [(h0, .inr (17, [.ref ss, .ref tb, .ref pa, .ref ck, .ref ev, .ref pn, .ref lk, .ref jo, .ref orw, .ref nrw, .int g10, .int g11, .int g12, .int g13, .int g14, .int g15])), (jo, .inr (10, [.ref tb, .ref jk, .ref jt, .ref jn, .ref ju, .ref jp, .ref jb, .ref ja, .ref jl, .ref jr, .int j10, .int j11, .int j12, .int j13, .int j14, .int j15])), (lk, .inr (9, [.ref ps, .ref sp, .ref wa, .ref rd, .int rc, .ref at_, .ref am, .ref ak, .ref ac, .ref an, .ref lp])), (wa, .inl (cPl, 4, .inr (.inr (.inr (.inr wf)))))] sz) [(h0, .inr (17, [.ref ss, .ref tb, .ref pa, .ref ck, .ref ev, .ref pn, .ref lk, .ref jo, .ref orw, .ref nrw, .int g10, .int g11, .int g12, .int g13, .int g14, .int g15])), (jo, .inr (10, [.ref tb, .ref jk, .ref jt, .ref jn, .ref ju, .ref jp, .ref jb, .ref ja, .ref jl, .ref jr, .int j10, .int j11, .int j12, .int j13, .int j14, .int j15])), (lk, .inr (9, [.ref ps, .ref sp, .ref wa, .ref rd, .int rc, .ref at_, .ref am, .ref ak, .ref ac, .ref an, .ref lp])), (wa, .inl (cPl, 4, .inr (.inr (.inr (.inr wf)))))]) (va_A [(h0, .inr (17, [.ref ss, .ref tb, .ref pa, .ref ck, .ref ev, .ref pn, .ref lk, .ref jo, .ref orw, .ref nrw, .int g10, .int g11, .int g12, .int g13, .int g14, .int g15])), (jo, .inr (10, [.ref tb, .ref jk, .ref jt, .ref jn, .ref ju, .ref jp, .ref jb, .ref ja, .ref jl, .ref jr, .int j10, .int j11, .int j12, .int j13, .int j14, .int j15])), (lk, .inr (9, [.ref ps, .ref sp, .ref wa, .ref rd, .int rc, .ref at_, .ref am, .ref ak, .ref ac, .ref an, .ref lp])), (wa, .inl (cPl, 4, .inr (.inr (.inr (.inr wf)))))] sz)) 0 0 (va_A [(h0, .inr (17, [.ref ss, .ref tb, .ref pa, .ref ck, .ref ev, .ref pn, .ref lk, .ref jo, .ref orw, .ref nrw, .int g10, .int g11, .int g12, .int g13, .int g14, .int g15])), (jo, .inr (10, [.ref tb, .ref jk, .ref jt, .ref jn, .ref ju, .ref jp, .ref jb, .ref ja, .ref jl, .ref jr, .int j10, .int j11, .int j12, .int j13, .int j14, .int j15])), (lk, .inr (9, [.ref ps, .ref sp, .ref wa, .ref rd, .int rc, .ref at_, .ref am, .ref ak, .ref ac, .ref an, .ref lp])), (wa, .inl (cPl, 4, .inr (.inr (.inr (.inr wf)))))] sz) := by
  refine Met.ofW (cc := cX12_told) (maxL := 2) (ret := (some .int)) (by decide) rfl ?_
  intro p e s m args below meth c s₁ B hml hv
  obtain ⟨rfl, hsz, hP, hK, hD0⟩ := hv
  have hx := B.exec
  have hb := B.bytes
  have hr := B.returns
  have hts := atoms_spec (ws := wsX12_told) B.pre
  have hown : s.vm.findClass RX12 = some m.cls := findClass_of_methodNamed B.named
  have hlocks := B.notSynchronized
  subst hsz
  have hD := hD0.self (sz := s.heap.size)
  generalize hAe : va_A [(h0, .inr (17, [.ref ss, .ref tb, .ref pa, .ref ck, .ref ev, .ref pn, .ref lk, .ref jo, .ref orw, .ref nrw, .int g10, .int g11, .int g12, .int g13, .int g14, .int g15])), (jo, .inr (10, [.ref tb, .ref jk, .ref jt, .ref jn, .ref ju, .ref jp, .ref jb, .ref ja, .ref jl, .ref jr, .int j10, .int j11, .int j12, .int j13, .int j14, .int j15])), (lk, .inr (9, [.ref ps, .ref sp, .ref wa, .ref rd, .int rc, .ref at_, .ref am, .ref ak, .ref ac, .ref an, .ref lp])), (wa, .inl (cPl, 4, .inr (.inr (.inr (.inr wf)))))] s.heap.size = A at hD ⊢
  have hA : ∀ q : Nat, s.heap.size ≤ q → A q := fun q h => by rw [← hAe]; exact Or.inr h
  have hS : va_S A s.heap s.heap [] := va_S.rf
  have hP : va_P (dC, dI) vwCl [(h0, .inr (17, [.ref ss, .ref tb, .ref pa, .ref ck, .ref ev, .ref pn, .ref lk, .ref jo, .ref orw, .ref nrw, .int g10, .int g11, .int g12, .int g13, .int g14, .int g15])), (jo, .inr (10, [.ref tb, .ref jk, .ref jt, .ref jn, .ref ju, .ref jp, .ref jb, .ref ja, .ref jl, .ref jr, .int j10, .int j11, .int j12, .int j13, .int j14, .int j15])), (lk, .inr (9, [.ref ps, .ref sp, .ref wa, .ref rd, .int rc, .ref at_, .ref am, .ref ak, .ref ac, .ref an, .ref lp])), (wa, .inl (cPl, 4, .inr (.inr (.inr (.inr wf)))))] s.heap := hP
  have hl := lv_entry ([.ref h0, .int p0]) (n := 2) (Nat.le_of_ble_eq_true rfl)
  rw [lg_entry_eq]
  generalize (lg_sl ([.ref h0, .int p0]) ++ List.replicate (2 - (lg_sl ([.ref h0, .int p0])).length) Slot.unset).toArray = ls at hl ⊢
  have hl : lv_has ls 2 [(0, .ref h0), (1, .int p0)] := hl
  refine lv_iload_n hx hb dX12_told_0 rfl (lv_at hl 1 rfl) ?_
  by_cases k_1 : p0 = 0
  · subst k_1
    refine lv_tableIn (tgt := 48) hx hb dX12_told_1 (by decide) (by decide) rfl (by decide) ?_
    refine lv_aload_n hx hb dX12_told_48 rfl (lv_at hl 0 rfl) ?_
    refine va_get (D := (dC, dI)) (ci := 17) (v := .int g11) (C := RX12) (T := TX12) (N := 16) hx hb hts (by decide +kernel) hown hK hP 0 rfl rfl 11 (by decide) (hts (.fieldLink RX12 307 "QueryHall" "tableCount" "I") (by decide +kernel)) (fun _ h9 => h9) rfl dX12_told_49 ?_
    have hP9 := hP.sub (ws' := [(h0, .inr (17, [.ref ss, .ref tb, .ref pa, .ref ck, .ref ev, .ref pn, .ref lk, .ref jo, .ref orw, .ref nrw, .int g10, .int g11, .int g12, .int g13, .int g14, .int g15])), (jo, .inr (10, [.ref tb, .ref jk, .ref jt, .ref jn, .ref ju, .ref jp, .ref jb, .ref ja, .ref jl, .ref jr, .int j10, .int j11, .int j12, .int j13, .int j14, .int j15])), (lk, .inr (9, [.ref ps, .ref sp, .ref wa, .ref rd, .int rc, .ref at_, .ref am, .ref ak, .ref ac, .ref an, .ref lp])), (wa, .inl (cPl, 4, .inr (.inr (.inr (.inr wf)))))]) [0, 1, 2, 3] rfl
    have hD9 := hD.sub (ws' := [(h0, .inr (17, [.ref ss, .ref tb, .ref pa, .ref ck, .ref ev, .ref pn, .ref lk, .ref jo, .ref orw, .ref nrw, .int g10, .int g11, .int g12, .int g13, .int g14, .int g15])), (jo, .inr (10, [.ref tb, .ref jk, .ref jt, .ref jn, .ref ju, .ref jp, .ref jb, .ref ja, .ref jl, .ref jr, .int j10, .int j11, .int j12, .int j13, .int j14, .int j15])), (lk, .inr (9, [.ref ps, .ref sp, .ref wa, .ref rd, .int rc, .ref at_, .ref am, .ref ak, .ref ac, .ref an, .ref lp])), (wa, .inl (cPl, 4, .inr (.inr (.inr (.inr wf)))))]) [0, 1, 2, 3] (by decide) rfl
    have hK9 := hK.sub (tys' := [(cPl, .object RX7)]) [0] rfl
    exact W.iret (v := g11) hx hb hr (fun t ht hW => ⟨⟨g11, (), rfl, (by try rfl), by rw [ht]; exact hP9, va_K.moved hW.alike hK9, hD9⟩, hS.F ht⟩) hS.2.2 dX12_told_52
  by_cases k_2 : p0 = 1
  · subst k_2
    refine lv_tableIn (tgt := 53) hx hb dX12_told_1 (by decide) (by decide) rfl (by decide) ?_
    refine lv_aload_n hx hb dX12_told_53 rfl (lv_at hl 0 rfl) ?_
    refine va_get (D := (dC, dI)) (ci := 17) (v := .int g12) (C := RX12) (T := TX12) (N := 16) hx hb hts (by decide +kernel) hown hK hP 0 rfl rfl 12 (by decide) (hts (.fieldLink RX12 310 "QueryHall" "indexCount" "I") (by decide +kernel)) (fun _ h9 => h9) rfl dX12_told_54 ?_
    have hP9 := hP.sub (ws' := [(h0, .inr (17, [.ref ss, .ref tb, .ref pa, .ref ck, .ref ev, .ref pn, .ref lk, .ref jo, .ref orw, .ref nrw, .int g10, .int g11, .int g12, .int g13, .int g14, .int g15])), (jo, .inr (10, [.ref tb, .ref jk, .ref jt, .ref jn, .ref ju, .ref jp, .ref jb, .ref ja, .ref jl, .ref jr, .int j10, .int j11, .int j12, .int j13, .int j14, .int j15])), (lk, .inr (9, [.ref ps, .ref sp, .ref wa, .ref rd, .int rc, .ref at_, .ref am, .ref ak, .ref ac, .ref an, .ref lp])), (wa, .inl (cPl, 4, .inr (.inr (.inr (.inr wf)))))]) [0, 1, 2, 3] rfl
    have hD9 := hD.sub (ws' := [(h0, .inr (17, [.ref ss, .ref tb, .ref pa, .ref ck, .ref ev, .ref pn, .ref lk, .ref jo, .ref orw, .ref nrw, .int g10, .int g11, .int g12, .int g13, .int g14, .int g15])), (jo, .inr (10, [.ref tb, .ref jk, .ref jt, .ref jn, .ref ju, .ref jp, .ref jb, .ref ja, .ref jl, .ref jr, .int j10, .int j11, .int j12, .int j13, .int j14, .int j15])), (lk, .inr (9, [.ref ps, .ref sp, .ref wa, .ref rd, .int rc, .ref at_, .ref am, .ref ak, .ref ac, .ref an, .ref lp])), (wa, .inl (cPl, 4, .inr (.inr (.inr (.inr wf)))))]) [0, 1, 2, 3] (by decide) rfl
    have hK9 := hK.sub (tys' := [(cPl, .object RX7)]) [0] rfl
    exact W.iret (v := g12) hx hb hr (fun t ht hW => ⟨⟨g12, (), rfl, (by try (first | rw [if_pos k_1] | rw [if_neg k_1] | rw [if_pos rfl]); try rfl), by rw [ht]; exact hP9, va_K.moved hW.alike hK9, hD9⟩, hS.F ht⟩) hS.2.2 dX12_told_57
  by_cases k_3 : p0 = 2
  · subst k_3
    refine lv_tableIn (tgt := 58) hx hb dX12_told_1 (by decide) (by decide) rfl (by decide) ?_
    refine lv_aload_n hx hb dX12_told_58 rfl (lv_at hl 0 rfl) ?_
    refine va_get (D := (dC, dI)) (ci := 17) (v := .ref jo) (C := RX12) (T := TX12) (N := 16) hx hb hts (by decide +kernel) hown hK hP 0 rfl rfl 7 (by decide) (hts (.fieldLink RX12 79 "QueryHall" "journal" "LQueryHall$Log;") (by decide +kernel)) (fun _ h9 => h9) rfl dX12_told_59 ?_
    refine va_get (D := (dC, dI)) (ci := 10) (v := .int j11) (C := RX5) (T := TX5) (N := 16) hx hb hts (by decide +kernel) hown hK hP 1 rfl rfl 11 (by decide) (hts (.fieldLink RX12 241 "QueryHall$Log" "last" "I") (by decide +kernel)) (fun _ h9 => h9) rfl dX12_told_62 ?_
    have hP9 := hP.sub (ws' := [(h0, .inr (17, [.ref ss, .ref tb, .ref pa, .ref ck, .ref ev, .ref pn, .ref lk, .ref jo, .ref orw, .ref nrw, .int g10, .int g11, .int g12, .int g13, .int g14, .int g15])), (jo, .inr (10, [.ref tb, .ref jk, .ref jt, .ref jn, .ref ju, .ref jp, .ref jb, .ref ja, .ref jl, .ref jr, .int j10, .int j11, .int j12, .int j13, .int j14, .int j15])), (lk, .inr (9, [.ref ps, .ref sp, .ref wa, .ref rd, .int rc, .ref at_, .ref am, .ref ak, .ref ac, .ref an, .ref lp])), (wa, .inl (cPl, 4, .inr (.inr (.inr (.inr wf)))))]) [0, 1, 2, 3] rfl
    have hD9 := hD.sub (ws' := [(h0, .inr (17, [.ref ss, .ref tb, .ref pa, .ref ck, .ref ev, .ref pn, .ref lk, .ref jo, .ref orw, .ref nrw, .int g10, .int g11, .int g12, .int g13, .int g14, .int g15])), (jo, .inr (10, [.ref tb, .ref jk, .ref jt, .ref jn, .ref ju, .ref jp, .ref jb, .ref ja, .ref jl, .ref jr, .int j10, .int j11, .int j12, .int j13, .int j14, .int j15])), (lk, .inr (9, [.ref ps, .ref sp, .ref wa, .ref rd, .int rc, .ref at_, .ref am, .ref ak, .ref ac, .ref an, .ref lp])), (wa, .inl (cPl, 4, .inr (.inr (.inr (.inr wf)))))]) [0, 1, 2, 3] (by decide) rfl
    have hK9 := hK.sub (tys' := [(cPl, .object RX7)]) [0] rfl
    exact W.iret (v := j11) hx hb hr (fun t ht hW => ⟨⟨j11, (), rfl, (by try (first | rw [if_pos k_1] | rw [if_neg k_1] | rw [if_pos rfl]); try (first | rw [if_pos k_2] | rw [if_neg k_2] | rw [if_pos rfl]); try rfl), by rw [ht]; exact hP9, va_K.moved hW.alike hK9, hD9⟩, hS.F ht⟩) hS.2.2 dX12_told_65
  by_cases k_4 : p0 = 3
  · subst k_4
    refine lv_tableIn (tgt := 66) hx hb dX12_told_1 (by decide) (by decide) rfl (by decide) ?_
    refine lv_aload_n hx hb dX12_told_66 rfl (lv_at hl 0 rfl) ?_
    refine va_get (D := (dC, dI)) (ci := 17) (v := .ref jo) (C := RX12) (T := TX12) (N := 16) hx hb hts (by decide +kernel) hown hK hP 0 rfl rfl 7 (by decide) (hts (.fieldLink RX12 79 "QueryHall" "journal" "LQueryHall$Log;") (by decide +kernel)) (fun _ h9 => h9) rfl dX12_told_67 ?_
    refine va_get (D := (dC, dI)) (ci := 10) (v := .int j13) (C := RX5) (T := TX5) (N := 16) hx hb hts (by decide +kernel) hown hK hP 1 rfl rfl 13 (by decide) (hts (.fieldLink RX12 253 "QueryHall$Log" "first" "I") (by decide +kernel)) (fun _ h9 => h9) rfl dX12_told_70 ?_
    have hP9 := hP.sub (ws' := [(h0, .inr (17, [.ref ss, .ref tb, .ref pa, .ref ck, .ref ev, .ref pn, .ref lk, .ref jo, .ref orw, .ref nrw, .int g10, .int g11, .int g12, .int g13, .int g14, .int g15])), (jo, .inr (10, [.ref tb, .ref jk, .ref jt, .ref jn, .ref ju, .ref jp, .ref jb, .ref ja, .ref jl, .ref jr, .int j10, .int j11, .int j12, .int j13, .int j14, .int j15])), (lk, .inr (9, [.ref ps, .ref sp, .ref wa, .ref rd, .int rc, .ref at_, .ref am, .ref ak, .ref ac, .ref an, .ref lp])), (wa, .inl (cPl, 4, .inr (.inr (.inr (.inr wf)))))]) [0, 1, 2, 3] rfl
    have hD9 := hD.sub (ws' := [(h0, .inr (17, [.ref ss, .ref tb, .ref pa, .ref ck, .ref ev, .ref pn, .ref lk, .ref jo, .ref orw, .ref nrw, .int g10, .int g11, .int g12, .int g13, .int g14, .int g15])), (jo, .inr (10, [.ref tb, .ref jk, .ref jt, .ref jn, .ref ju, .ref jp, .ref jb, .ref ja, .ref jl, .ref jr, .int j10, .int j11, .int j12, .int j13, .int j14, .int j15])), (lk, .inr (9, [.ref ps, .ref sp, .ref wa, .ref rd, .int rc, .ref at_, .ref am, .ref ak, .ref ac, .ref an, .ref lp])), (wa, .inl (cPl, 4, .inr (.inr (.inr (.inr wf)))))]) [0, 1, 2, 3] (by decide) rfl
    have hK9 := hK.sub (tys' := [(cPl, .object RX7)]) [0] rfl
    exact W.iret (v := j13) hx hb hr (fun t ht hW => ⟨⟨j13, (), rfl, (by try (first | rw [if_pos k_1] | rw [if_neg k_1] | rw [if_pos rfl]); try (first | rw [if_pos k_2] | rw [if_neg k_2] | rw [if_pos rfl]); try (first | rw [if_pos k_3] | rw [if_neg k_3] | rw [if_pos rfl]); try rfl), by rw [ht]; exact hP9, va_K.moved hW.alike hK9, hD9⟩, hS.F ht⟩) hS.2.2 dX12_told_73
  by_cases k_5 : p0 = 4
  · subst k_5
    refine lv_tableIn (tgt := 74) hx hb dX12_told_1 (by decide) (by decide) rfl (by decide) ?_
    refine lv_aload_n hx hb dX12_told_74 rfl (lv_at hl 0 rfl) ?_
    refine va_get (D := (dC, dI)) (ci := 17) (v := .ref jo) (C := RX12) (T := TX12) (N := 16) hx hb hts (by decide +kernel) hown hK hP 0 rfl rfl 7 (by decide) (hts (.fieldLink RX12 79 "QueryHall" "journal" "LQueryHall$Log;") (by decide +kernel)) (fun _ h9 => h9) rfl dX12_told_75 ?_
    refine va_get (D := (dC, dI)) (ci := 10) (v := .int j12) (C := RX5) (T := TX5) (N := 16) hx hb hts (by decide +kernel) hown hK hP 1 rfl rfl 12 (by decide) (hts (.fieldLink RX12 299 "QueryHall$Log" "durable" "I") (by decide +kernel)) (fun _ h9 => h9) rfl dX12_told_78 ?_
    have hP9 := hP.sub (ws' := [(h0, .inr (17, [.ref ss, .ref tb, .ref pa, .ref ck, .ref ev, .ref pn, .ref lk, .ref jo, .ref orw, .ref nrw, .int g10, .int g11, .int g12, .int g13, .int g14, .int g15])), (jo, .inr (10, [.ref tb, .ref jk, .ref jt, .ref jn, .ref ju, .ref jp, .ref jb, .ref ja, .ref jl, .ref jr, .int j10, .int j11, .int j12, .int j13, .int j14, .int j15])), (lk, .inr (9, [.ref ps, .ref sp, .ref wa, .ref rd, .int rc, .ref at_, .ref am, .ref ak, .ref ac, .ref an, .ref lp])), (wa, .inl (cPl, 4, .inr (.inr (.inr (.inr wf)))))]) [0, 1, 2, 3] rfl
    have hD9 := hD.sub (ws' := [(h0, .inr (17, [.ref ss, .ref tb, .ref pa, .ref ck, .ref ev, .ref pn, .ref lk, .ref jo, .ref orw, .ref nrw, .int g10, .int g11, .int g12, .int g13, .int g14, .int g15])), (jo, .inr (10, [.ref tb, .ref jk, .ref jt, .ref jn, .ref ju, .ref jp, .ref jb, .ref ja, .ref jl, .ref jr, .int j10, .int j11, .int j12, .int j13, .int j14, .int j15])), (lk, .inr (9, [.ref ps, .ref sp, .ref wa, .ref rd, .int rc, .ref at_, .ref am, .ref ak, .ref ac, .ref an, .ref lp])), (wa, .inl (cPl, 4, .inr (.inr (.inr (.inr wf)))))]) [0, 1, 2, 3] (by decide) rfl
    have hK9 := hK.sub (tys' := [(cPl, .object RX7)]) [0] rfl
    exact W.iret (v := j12) hx hb hr (fun t ht hW => ⟨⟨j12, (), rfl, (by try (first | rw [if_pos k_1] | rw [if_neg k_1] | rw [if_pos rfl]); try (first | rw [if_pos k_2] | rw [if_neg k_2] | rw [if_pos rfl]); try (first | rw [if_pos k_3] | rw [if_neg k_3] | rw [if_pos rfl]); try (first | rw [if_pos k_4] | rw [if_neg k_4] | rw [if_pos rfl]); try rfl), by rw [ht]; exact hP9, va_K.moved hW.alike hK9, hD9⟩, hS.F ht⟩) hS.2.2 dX12_told_81
  by_cases k_6 : p0 = 5
  · subst k_6
    refine lv_tableIn (tgt := 82) hx hb dX12_told_1 (by decide) (by decide) rfl (by decide) ?_
    refine lv_aload_n hx hb dX12_told_82 rfl (lv_at hl 0 rfl) ?_
    refine va_get (D := (dC, dI)) (ci := 17) (v := .int g14) (C := RX12) (T := TX12) (N := 16) hx hb hts (by decide +kernel) hown hK hP 0 rfl rfl 14 (by decide) (hts (.fieldLink RX12 56 "QueryHall" "up" "Z") (by decide +kernel)) (fun _ h9 => h9) rfl dX12_told_83 ?_
    refine lv_if_eq (tgt := 93) hx hb dX12_told_86 (by decide) (fun c_7 => ?_) (fun c_7 => ?_)
    · skip
      refine lv_iconst (v := 0) hx hb dX12_told_93 (by decide) ?_
      have hP9 := hP.sub (ws' := [(h0, .inr (17, [.ref ss, .ref tb, .ref pa, .ref ck, .ref ev, .ref pn, .ref lk, .ref jo, .ref orw, .ref nrw, .int g10, .int g11, .int g12, .int g13, .int g14, .int g15])), (jo, .inr (10, [.ref tb, .ref jk, .ref jt, .ref jn, .ref ju, .ref jp, .ref jb, .ref ja, .ref jl, .ref jr, .int j10, .int j11, .int j12, .int j13, .int j14, .int j15])), (lk, .inr (9, [.ref ps, .ref sp, .ref wa, .ref rd, .int rc, .ref at_, .ref am, .ref ak, .ref ac, .ref an, .ref lp])), (wa, .inl (cPl, 4, .inr (.inr (.inr (.inr wf)))))]) [0, 1, 2, 3] rfl
      have hD9 := hD.sub (ws' := [(h0, .inr (17, [.ref ss, .ref tb, .ref pa, .ref ck, .ref ev, .ref pn, .ref lk, .ref jo, .ref orw, .ref nrw, .int g10, .int g11, .int g12, .int g13, .int g14, .int g15])), (jo, .inr (10, [.ref tb, .ref jk, .ref jt, .ref jn, .ref ju, .ref jp, .ref jb, .ref ja, .ref jl, .ref jr, .int j10, .int j11, .int j12, .int j13, .int j14, .int j15])), (lk, .inr (9, [.ref ps, .ref sp, .ref wa, .ref rd, .int rc, .ref at_, .ref am, .ref ak, .ref ac, .ref an, .ref lp])), (wa, .inl (cPl, 4, .inr (.inr (.inr (.inr wf)))))]) [0, 1, 2, 3] (by decide) rfl
      have hK9 := hK.sub (tys' := [(cPl, .object RX7)]) [0] rfl
      exact W.iret (v := 0) hx hb hr (fun t ht hW => ⟨⟨0, (), rfl, (by try (first | rw [if_pos k_1] | rw [if_neg k_1] | rw [if_pos rfl]); try (first | rw [if_pos k_2] | rw [if_neg k_2] | rw [if_pos rfl]); try (first | rw [if_pos k_3] | rw [if_neg k_3] | rw [if_pos rfl]); try (first | rw [if_pos k_4] | rw [if_neg k_4] | rw [if_pos rfl]); try (first | rw [if_pos k_5] | rw [if_neg k_5] | rw [if_pos rfl]); try (first | rw [if_pos c_7] | rw [if_neg c_7] | rw [if_pos rfl]); try rfl), by rw [ht]; exact hP9, va_K.moved hW.alike hK9, hD9⟩, hS.F ht⟩) hS.2.2 dX12_told_94
    · skip
      refine lv_iconst (v := 1) hx hb dX12_told_89 (by decide) ?_
      refine lv_goto (tgt := 94) hx hb dX12_told_90 (by decide) ?_
      have hP9 := hP.sub (ws' := [(h0, .inr (17, [.ref ss, .ref tb, .ref pa, .ref ck, .ref ev, .ref pn, .ref lk, .ref jo, .ref orw, .ref nrw, .int g10, .int g11, .int g12, .int g13, .int g14, .int g15])), (jo, .inr (10, [.ref tb, .ref jk, .ref jt, .ref jn, .ref ju, .ref jp, .ref jb, .ref ja, .ref jl, .ref jr, .int j10, .int j11, .int j12, .int j13, .int j14, .int j15])), (lk, .inr (9, [.ref ps, .ref sp, .ref wa, .ref rd, .int rc, .ref at_, .ref am, .ref ak, .ref ac, .ref an, .ref lp])), (wa, .inl (cPl, 4, .inr (.inr (.inr (.inr wf)))))]) [0, 1, 2, 3] rfl
      have hD9 := hD.sub (ws' := [(h0, .inr (17, [.ref ss, .ref tb, .ref pa, .ref ck, .ref ev, .ref pn, .ref lk, .ref jo, .ref orw, .ref nrw, .int g10, .int g11, .int g12, .int g13, .int g14, .int g15])), (jo, .inr (10, [.ref tb, .ref jk, .ref jt, .ref jn, .ref ju, .ref jp, .ref jb, .ref ja, .ref jl, .ref jr, .int j10, .int j11, .int j12, .int j13, .int j14, .int j15])), (lk, .inr (9, [.ref ps, .ref sp, .ref wa, .ref rd, .int rc, .ref at_, .ref am, .ref ak, .ref ac, .ref an, .ref lp])), (wa, .inl (cPl, 4, .inr (.inr (.inr (.inr wf)))))]) [0, 1, 2, 3] (by decide) rfl
      have hK9 := hK.sub (tys' := [(cPl, .object RX7)]) [0] rfl
      exact W.iret (v := 1) hx hb hr (fun t ht hW => ⟨⟨1, (), rfl, (by try (first | rw [if_pos k_1] | rw [if_neg k_1] | rw [if_pos rfl]); try (first | rw [if_pos k_2] | rw [if_neg k_2] | rw [if_pos rfl]); try (first | rw [if_pos k_3] | rw [if_neg k_3] | rw [if_pos rfl]); try (first | rw [if_pos k_4] | rw [if_neg k_4] | rw [if_pos rfl]); try (first | rw [if_pos k_5] | rw [if_neg k_5] | rw [if_pos rfl]); try (first | rw [if_pos c_7] | rw [if_neg c_7] | rw [if_pos rfl]); try rfl), by rw [ht]; exact hP9, va_K.moved hW.alike hK9, hD9⟩, hS.F ht⟩) hS.2.2 dX12_told_94
  by_cases k_8 : p0 = 6
  · subst k_8
    refine lv_tableIn (tgt := 95) hx hb dX12_told_1 (by decide) (by decide) rfl (by decide) ?_
    refine lv_aload_n hx hb dX12_told_95 rfl (lv_at hl 0 rfl) ?_
    refine va_get (D := (dC, dI)) (ci := 17) (v := .int g13) (C := RX12) (T := TX12) (N := 16) hx hb hts (by decide +kernel) hown hK hP 0 rfl rfl 13 (by decide) (hts (.fieldLink RX12 52 "QueryHall" "nextTransaction" "I") (by decide +kernel)) (fun _ h9 => h9) rfl dX12_told_96 ?_
    have hP9 := hP.sub (ws' := [(h0, .inr (17, [.ref ss, .ref tb, .ref pa, .ref ck, .ref ev, .ref pn, .ref lk, .ref jo, .ref orw, .ref nrw, .int g10, .int g11, .int g12, .int g13, .int g14, .int g15])), (jo, .inr (10, [.ref tb, .ref jk, .ref jt, .ref jn, .ref ju, .ref jp, .ref jb, .ref ja, .ref jl, .ref jr, .int j10, .int j11, .int j12, .int j13, .int j14, .int j15])), (lk, .inr (9, [.ref ps, .ref sp, .ref wa, .ref rd, .int rc, .ref at_, .ref am, .ref ak, .ref ac, .ref an, .ref lp])), (wa, .inl (cPl, 4, .inr (.inr (.inr (.inr wf)))))]) [0, 1, 2, 3] rfl
    have hD9 := hD.sub (ws' := [(h0, .inr (17, [.ref ss, .ref tb, .ref pa, .ref ck, .ref ev, .ref pn, .ref lk, .ref jo, .ref orw, .ref nrw, .int g10, .int g11, .int g12, .int g13, .int g14, .int g15])), (jo, .inr (10, [.ref tb, .ref jk, .ref jt, .ref jn, .ref ju, .ref jp, .ref jb, .ref ja, .ref jl, .ref jr, .int j10, .int j11, .int j12, .int j13, .int j14, .int j15])), (lk, .inr (9, [.ref ps, .ref sp, .ref wa, .ref rd, .int rc, .ref at_, .ref am, .ref ak, .ref ac, .ref an, .ref lp])), (wa, .inl (cPl, 4, .inr (.inr (.inr (.inr wf)))))]) [0, 1, 2, 3] (by decide) rfl
    have hK9 := hK.sub (tys' := [(cPl, .object RX7)]) [0] rfl
    exact W.iret (v := g13) hx hb hr (fun t ht hW => ⟨⟨g13, (), rfl, (by try (first | rw [if_pos k_1] | rw [if_neg k_1] | rw [if_pos rfl]); try (first | rw [if_pos k_2] | rw [if_neg k_2] | rw [if_pos rfl]); try (first | rw [if_pos k_3] | rw [if_neg k_3] | rw [if_pos rfl]); try (first | rw [if_pos k_4] | rw [if_neg k_4] | rw [if_pos rfl]); try (first | rw [if_pos k_5] | rw [if_neg k_5] | rw [if_pos rfl]); try (first | rw [if_pos k_6] | rw [if_neg k_6] | rw [if_pos rfl]); try rfl), by rw [ht]; exact hP9, va_K.moved hW.alike hK9, hD9⟩, hS.F ht⟩) hS.2.2 dX12_told_99
  by_cases k_9 : p0 = 7
  · subst k_9
    refine lv_tableIn (tgt := 100) hx hb dX12_told_1 (by decide) (by decide) rfl (by decide) ?_
    refine lv_aload_n hx hb dX12_told_100 rfl (lv_at hl 0 rfl) ?_
    refine va_get (D := (dC, dI)) (ci := 17) (v := .ref lk) (C := RX12) (T := TX12) (N := 16) hx hb hts (by decide +kernel) hown hK hP 0 rfl rfl 6 (by decide) (hts (.fieldLink RX12 39 "QueryHall" "locks" "LQueryHall$Locks;") (by decide +kernel)) (fun _ h9 => h9) rfl dX12_told_101 ?_
    have hPc := hP.sub (ws' := [(lk, .inr (9, [.ref ps, .ref sp, .ref wa, .ref rd, .int rc, .ref at_, .ref am, .ref ak, .ref ac, .ref an, .ref lp])), (wa, .inl (cPl, 4, .inr (.inr (.inr (.inr wf)))))]) [2, 3] rfl
    have hDc := hD.sub (ws' := [(lk, .inr (9, [.ref ps, .ref sp, .ref wa, .ref rd, .int rc, .ref at_, .ref am, .ref ak, .ref ac, .ref an, .ref lp])), (wa, .inl (cPl, 4, .inr (.inr (.inr (.inr wf)))))]) [2, 3] (by decide) rfl
    have hKc := hK.sub (tys' := [(cPl, .object RX7)]) [0] rfl
    have hFc := va_free (wc := [(lk, .inr (9, [.ref ps, .ref sp, .ref wa, .ref rd, .int rc, .ref at_, .ref am, .ref ak, .ref ac, .ref an, .ref lp])), (wa, .inl (cPl, 4, .inr (.inr (.inr (.inr wf)))))]) hD hS hA [2, 3] rfl
    refine va_calli (va_runV (As := []) (rest := []) ⟨hx, hb, hml, hown, hts⟩ (c_X4_waiters l dC dI s.heap.size lk ps sp wa rd at_ am ak ac an lp rc cPl wf) (cwV 0 hts gX12_told_X4_waiters rfl rfl rfl (by decide +kernel) ⟨Nat.le_of_ble_eq_true rfl, Nat.le_of_ble_eq_true rfl⟩) ⟨fun a U g mk q => by obtain ⟨q0, q1, qP, qK, qD⟩ := q; exact ⟨q0, q1, qP, va_K.moved (u := U) (U := U.calling g mk a) (Vm.Alike.refl U.vm) qK, qD⟩, va_recv hKc hPc (ci := 9) (q0 := 0) rfl rfl, fun U hU hW => ⟨rfl, by rw [hU], by rw [hU]; exact hPc, va_K.moved hW.alike hKc, hDc.weaken (fun _ _ _ _ => trivial)⟩⟩ rfl rfl hl.1 rfl (lv_room (Nat.le_of_ble_eq_true rfl)) dX12_told_104 ⟨Nat.le_of_ble_eq_true rfl, Nat.le_of_ble_eq_true rfl⟩) hS (fun q _ h => hFc q h) hFc (fun r_10 u t H1 locs ht hvm hw hB hz1 hk1 hS => ?_)
    obtain ⟨hP1, hK1, hD1⟩ := hB
    rw [ht] at hP1
    obtain ⟨hP, hD⟩ := va_join (wr := [(h0, .inr (17, [.ref ss, .ref tb, .ref pa, .ref ck, .ref ev, .ref pn, .ref lk, .ref jo, .ref orw, .ref nrw, .int g10, .int g11, .int g12, .int g13, .int g14, .int g15])), (jo, .inr (10, [.ref tb, .ref jk, .ref jt, .ref jn, .ref ju, .ref jp, .ref jb, .ref ja, .ref jl, .ref jr, .int j10, .int j11, .int j12, .int j13, .int j14, .int j15]))]) (w1 := [(lk, .inr (9, [.ref ps, .ref sp, .ref wa, .ref rd, .int rc, .ref at_, .ref am, .ref ak, .ref ac, .ref an, .ref lp])), (wa, .inl (cPl, 4, .inr (.inr (.inr (.inr wf)))))]) hP hD [2, 3] [0, 1] rfl rfl (by decide) (by decide) hk1 hFc hP1 hD1
    generalize H1 = H at hP hS ⊢
    have hP := hP.sub (ws' := [(h0, .inr (17, [.ref ss, .ref tb, .ref pa, .ref ck, .ref ev, .ref pn, .ref lk, .ref jo, .ref orw, .ref nrw, .int g10, .int g11, .int g12, .int g13, .int g14, .int g15])), (jo, .inr (10, [.ref tb, .ref jk, .ref jt, .ref jn, .ref ju, .ref jp, .ref jb, .ref ja, .ref jl, .ref jr, .int j10, .int j11, .int j12, .int j13, .int j14, .int j15])), (lk, .inr (9, [.ref ps, .ref sp, .ref wa, .ref rd, .int rc, .ref at_, .ref am, .ref ak, .ref ac, .ref an, .ref lp])), (wa, .inl (cPl, 4, .inr (.inr (.inr (.inr wf)))))]) [0, 1, 2, 3] rfl
    have hD := hD.sub (ws' := [(h0, .inr (17, [.ref ss, .ref tb, .ref pa, .ref ck, .ref ev, .ref pn, .ref lk, .ref jo, .ref orw, .ref nrw, .int g10, .int g11, .int g12, .int g13, .int g14, .int g15])), (jo, .inr (10, [.ref tb, .ref jk, .ref jt, .ref jn, .ref ju, .ref jp, .ref jb, .ref ja, .ref jl, .ref jr, .int j10, .int j11, .int j12, .int j13, .int j14, .int j15])), (lk, .inr (9, [.ref ps, .ref sp, .ref wa, .ref rd, .int rc, .ref at_, .ref am, .ref ak, .ref ac, .ref an, .ref lp])), (wa, .inl (cPl, 4, .inr (.inr (.inr (.inr wf)))))]) [0, 1, 2, 3] (by decide) rfl
    have hw : r_10 = 0 + qh_nn (wf 0) + qh_nn (wf 1) + qh_nn (wf 2) + qh_nn (wf 3) := hw
    subst hw
    have hP9 := hP.sub (ws' := [(h0, .inr (17, [.ref ss, .ref tb, .ref pa, .ref ck, .ref ev, .ref pn, .ref lk, .ref jo, .ref orw, .ref nrw, .int g10, .int g11, .int g12, .int g13, .int g14, .int g15])), (jo, .inr (10, [.ref tb, .ref jk, .ref jt, .ref jn, .ref ju, .ref jp, .ref jb, .ref ja, .ref jl, .ref jr, .int j10, .int j11, .int j12, .int j13, .int j14, .int j15])), (lk, .inr (9, [.ref ps, .ref sp, .ref wa, .ref rd, .int rc, .ref at_, .ref am, .ref ak, .ref ac, .ref an, .ref lp])), (wa, .inl (cPl, 4, .inr (.inr (.inr (.inr wf)))))]) [0, 1, 2, 3] rfl
    have hD9 := hD.sub (ws' := [(h0, .inr (17, [.ref ss, .ref tb, .ref pa, .ref ck, .ref ev, .ref pn, .ref lk, .ref jo, .ref orw, .ref nrw, .int g10, .int g11, .int g12, .int g13, .int g14, .int g15])), (jo, .inr (10, [.ref tb, .ref jk, .ref jt, .ref jn, .ref ju, .ref jp, .ref jb, .ref ja, .ref jl, .ref jr, .int j10, .int j11, .int j12, .int j13, .int j14, .int j15])), (lk, .inr (9, [.ref ps, .ref sp, .ref wa, .ref rd, .int rc, .ref at_, .ref am, .ref ak, .ref ac, .ref an, .ref lp])), (wa, .inl (cPl, 4, .inr (.inr (.inr (.inr wf)))))]) [0, 1, 2, 3] (by decide) rfl
    have hK9 := hK.sub (tys' := [(cPl, .object RX7)]) [0] rfl
    exact W.iret (v := 0 + qh_nn (wf 0) + qh_nn (wf 1) + qh_nn (wf 2) + qh_nn (wf 3)) hx hb hr (fun t ht hW => ⟨⟨0 + qh_nn (wf 0) + qh_nn (wf 1) + qh_nn (wf 2) + qh_nn (wf 3), (), rfl, (by try (first | rw [if_pos k_1] | rw [if_neg k_1] | rw [if_pos rfl]); try (first | rw [if_pos k_2] | rw [if_neg k_2] | rw [if_pos rfl]); try (first | rw [if_pos k_3] | rw [if_neg k_3] | rw [if_pos rfl]); try (first | rw [if_pos k_4] | rw [if_neg k_4] | rw [if_pos rfl]); try (first | rw [if_pos k_5] | rw [if_neg k_5] | rw [if_pos rfl]); try (first | rw [if_pos k_6] | rw [if_neg k_6] | rw [if_pos rfl]); try (first | rw [if_pos k_8] | rw [if_neg k_8] | rw [if_pos rfl]); try rfl), by rw [ht]; exact hP9, va_K.moved hW.alike hK9, hD9⟩, hS.F ht⟩) hS.2.2 dX12_told_107
  refine lv_tableOut (tgt := 108) hx hb dX12_told_1 (by have z0 := lv_neT k_1 (a := 0) rfl; have z1 := lv_neT k_2 (a := 1) rfl; have z2 := lv_neT k_3 (a := 2) rfl; have z3 := lv_neT k_4 (a := 3) rfl; have z4 := lv_neT k_5 (a := 4) rfl; have z5 := lv_neT k_6 (a := 5) rfl; have z6 := lv_neT k_8 (a := 6) rfl; have z7 := lv_neT k_9 (a := 7) rfl; omega) (by decide) ?_
  refine lv_iconst (v := -1) hx hb dX12_told_108 (by decide) ?_
  have hP9 := hP.sub (ws' := [(h0, .inr (17, [.ref ss, .ref tb, .ref pa, .ref ck, .ref ev, .ref pn, .ref lk, .ref jo, .ref orw, .ref nrw, .int g10, .int g11, .int g12, .int g13, .int g14, .int g15])), (jo, .inr (10, [.ref tb, .ref jk, .ref jt, .ref jn, .ref ju, .ref jp, .ref jb, .ref ja, .ref jl, .ref jr, .int j10, .int j11, .int j12, .int j13, .int j14, .int j15])), (lk, .inr (9, [.ref ps, .ref sp, .ref wa, .ref rd, .int rc, .ref at_, .ref am, .ref ak, .ref ac, .ref an, .ref lp])), (wa, .inl (cPl, 4, .inr (.inr (.inr (.inr wf)))))]) [0, 1, 2, 3] rfl
  have hD9 := hD.sub (ws' := [(h0, .inr (17, [.ref ss, .ref tb, .ref pa, .ref ck, .ref ev, .ref pn, .ref lk, .ref jo, .ref orw, .ref nrw, .int g10, .int g11, .int g12, .int g13, .int g14, .int g15])), (jo, .inr (10, [.ref tb, .ref jk, .ref jt, .ref jn, .ref ju, .ref jp, .ref jb, .ref ja, .ref jl, .ref jr, .int j10, .int j11, .int j12, .int j13, .int j14, .int j15])), (lk, .inr (9, [.ref ps, .ref sp, .ref wa, .ref rd, .int rc, .ref at_, .ref am, .ref ak, .ref ac, .ref an, .ref lp])), (wa, .inl (cPl, 4, .inr (.inr (.inr (.inr wf)))))]) [0, 1, 2, 3] (by decide) rfl
  have hK9 := hK.sub (tys' := [(cPl, .object RX7)]) [0] rfl
  exact W.iret (v := -1) hx hb hr (fun t ht hW => ⟨⟨-1, (), rfl, (by try (first | rw [if_pos k_1] | rw [if_neg k_1] | rw [if_pos rfl]); try (first | rw [if_pos k_2] | rw [if_neg k_2] | rw [if_pos rfl]); try (first | rw [if_pos k_3] | rw [if_neg k_3] | rw [if_pos rfl]); try (first | rw [if_pos k_4] | rw [if_neg k_4] | rw [if_pos rfl]); try (first | rw [if_pos k_5] | rw [if_neg k_5] | rw [if_pos rfl]); try (first | rw [if_pos k_6] | rw [if_neg k_6] | rw [if_pos rfl]); try (first | rw [if_pos k_8] | rw [if_neg k_8] | rw [if_pos rfl]); try (first | rw [if_pos k_9] | rw [if_neg k_9] | rw [if_pos rfl]); try rfl), by rw [ht]; exact hP9, va_K.moved hW.alike hK9, hD9⟩, hS.F ht⟩) hS.2.2 dX12_told_109
