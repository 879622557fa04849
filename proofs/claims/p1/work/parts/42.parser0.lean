abbrev cX6_init : ByteArray := prog_8_method_1_code
def yX6_init : MethodName := ⟨RX6, "<init>", "()V"⟩
def wsX6_init_r1 : List Cond := [Cond.methodLink RX6 3 objectInit, Cond.instanceMethod objectInit, Cond.code objectInit ⟨#[0xb1]⟩ 1 none, Cond.arrayClass .long, Cond.fieldLink RX6 9 "QueryHall$Parser" "words" "[J", Cond.arrayClass .int, Cond.fieldLink RX6 15 "QueryHall$Parser" "kinds" "[I", Cond.fieldLink RX6 19 "QueryHall$Parser" "places" "[I", Cond.fieldLink RX6 22 "QueryHall$Parser" "values" "[J", Cond.constantLong RX6 37 (37), Cond.constantLong RX6 39 (97), Cond.methodLink RX6 27 yJ0_length_8abf5, Cond.instanceMethod yJ0_length_8abf5, Cond.selects RJ0 yJ0_length_8abf5 yJ0_length_8abf5, Cond.initialized RJ0, Cond.code yJ0_length_8abf5 cJ0_length_8abf5 1 (some .int), Cond.fieldLink RJ0 9 "java/lang/String" "value" "[B", Cond.methodLink RJ0 335 yJ0_coder_7d493, Cond.instanceMethod yJ0_coder_7d493, Cond.selects RJ0 yJ0_coder_7d493 yJ0_coder_7d493, Cond.code yJ0_coder_7d493 cJ0_coder_7d493 1 (some .byte), Cond.fieldLink RJ0 38 "java/lang/String" "COMPACT_STRINGS" "Z", Cond.fieldLink RJ0 15 "java/lang/String" "coder" "B", Cond.methodLink RX6 33 yJ0_charAt_5068e]
def wsX6_init_r2 : List Cond := [Cond.instanceMethod yJ0_charAt_5068e, Cond.selects RJ0 yJ0_charAt_5068e yJ0_charAt_5068e, Cond.code yJ0_charAt_5068e cJ0_charAt_5068e 2 (some .char), Cond.methodLink RJ0 492 yJ0_isLatin1_aae02, Cond.instanceMethod yJ0_isLatin1_aae02, Cond.selects RJ0 yJ0_isLatin1_aae02 yJ0_isLatin1_aae02, Cond.code yJ0_isLatin1_aae02 cJ0_isLatin1_aae02 1 (some .boolean), Cond.methodLink RJ0 495 yJ1_charAt_3b067, Cond.static yJ1_charAt_3b067, Cond.initialized RJ1, Cond.code yJ1_charAt_3b067 cJ1_charAt_3b067 2 (some .char), Cond.methodLink RJ1 9 yJ0_checkIndex_df160, Cond.static yJ0_checkIndex_df160, Cond.code yJ0_checkIndex_df160 cJ0_checkIndex_df160 2 none, Cond.fieldLink RJ0 1053 "jdk/internal/util/Preconditions" "SIOOBE_FORMATTER" "Ljava/util/function/BiFunction;", Cond.methodLink RJ0 1059 yJ3_checkIndex_8e157, Cond.static yJ3_checkIndex_8e157, Cond.initialized RJ3, Cond.code yJ3_checkIndex_8e157 cJ3_checkIndex_8e157 3 (some .int), Cond.methodLink RJ0 498 yJ2_charAt_3b067, Cond.static yJ2_charAt_3b067, Cond.initialized RJ2, Cond.code yJ2_charAt_3b067 cJ2_charAt_3b067 2 (some .char), Cond.methodLink RJ2 67 yJ2_checkIndex_2214a]
def wsX6_init_r3 : List Cond := [Cond.static yJ2_checkIndex_2214a, Cond.code yJ2_checkIndex_2214a cJ2_checkIndex_2214a 2 none, Cond.methodLink RJ2 48 yJ2_length_9d52b, Cond.static yJ2_length_9d52b, Cond.code yJ2_length_9d52b cJ2_length_9d52b 1 (some .int), Cond.methodLink RJ2 414 yJ0_checkIndex_df160, Cond.methodLink RJ2 71 yJ2_getChar_3b067, Cond.static yJ2_getChar_3b067, Cond.code yJ2_getChar_3b067 cJ2_getChar_3b067 2 (some .char), Cond.fieldLink RJ2 44 "java/lang/StringUTF16" "$assertionsDisabled" "Z", Cond.fieldLink RJ2 59 "java/lang/StringUTF16" "HI_BYTE_SHIFT" "I", Cond.fieldLink RJ2 63 "java/lang/StringUTF16" "LO_BYTE_SHIFT" "I"]
def wsX6_init : List Cond := .code yX6_init cX6_init 5 none :: ((wsX6_init_r1 ++ (wsX6_init_r2 ++ wsX6_init_r3)) ++ wsX60 ++ wsJ00 ++ (vx_atM "java/lang/ArrayIndexOutOfBoundsException" ["java/lang/IndexOutOfBoundsException", "java/lang/RuntimeException", "java/lang/Exception"]).filter goodWord)
set_option maxRecDepth 20000 in
theorem ggX6_init_J0_length_8abf5 : GoodIn wsX6_init wsJ0_length_8abf5 := goodIn_r _ [16, 17, 18, 19, 20, 15, 21, 22, 23, 72, 73, 74, 75] (by decide +kernel) (by decide +kernel)
set_option maxRecDepth 20000 in
theorem gX6_init_J0_length_8abf5 : GoodIn wsX6_init (wsV RX6 27 RJ0 yJ0_length_8abf5 wsJ0_length_8abf5) := goodIn_app (goodIn_of _ (by decide +kernel)) ggX6_init_J0_length_8abf5
set_option maxRecDepth 20000 in
theorem ggX6_init_J0_charAt_5068e : GoodIn wsX6_init wsJ0_charAt_5068e := goodIn_r _ [27, 17, 28, 29, 30, 15, 31, 22, 23, 32, 33, 34, 35, 36, 37, 38, 39, 40, 41, 42, 43, 44, 45, 46, 47, 48, 49, 50, 51, 52, 53, 54, 55, 56, 57, 58, 59, 60, 72, 73, 74, 75] (by decide +kernel) (by decide +kernel)
set_option maxRecDepth 20000 in
theorem gX6_init_J0_charAt_5068e : GoodIn wsX6_init (wsV RX6 33 RJ0 yJ0_charAt_5068e wsJ0_charAt_5068e) := goodIn_app (goodIn_of _ (by decide +kernel)) ggX6_init_J0_charAt_5068e
theorem dX6_init_0 : decode cX6_init 0 = .ok (.aload_n 0, 1) := by decide +kernel
theorem dX6_init_1 : decode cX6_init 1 = .ok (.invokespecial 3, 3) := by decide +kernel
theorem dX6_init_4 : decode cX6_init 4 = .ok (.aload_n 0, 1) := by decide +kernel
theorem dX6_init_5 : decode cX6_init 5 = .ok (.bipush 40, 2) := by decide +kernel
theorem dX6_init_7 : decode cX6_init 7 = .ok (.newarray .long, 2) := by decide +kernel
theorem dX6_init_9 : decode cX6_init 9 = .ok (.putfield 9, 3) := by decide +kernel
theorem dX6_init_12 : decode cX6_init 12 = .ok (.aload_n 0, 1) := by decide +kernel
theorem dX6_init_13 : decode cX6_init 13 = .ok (.sipush 401, 3) := by decide +kernel
theorem dX6_init_16 : decode cX6_init 16 = .ok (.newarray .int, 2) := by decide +kernel
theorem dX6_init_18 : decode cX6_init 18 = .ok (.putfield 15, 3) := by decide +kernel
theorem dX6_init_21 : decode cX6_init 21 = .ok (.aload_n 0, 1) := by decide +kernel
theorem dX6_init_22 : decode cX6_init 22 = .ok (.sipush 401, 3) := by decide +kernel
theorem dX6_init_25 : decode cX6_init 25 = .ok (.newarray .int, 2) := by decide +kernel
theorem dX6_init_27 : decode cX6_init 27 = .ok (.putfield 19, 3) := by decide +kernel
theorem dX6_init_30 : decode cX6_init 30 = .ok (.aload_n 0, 1) := by decide +kernel
theorem dX6_init_31 : decode cX6_init 31 = .ok (.sipush 1203, 3) := by decide +kernel
theorem dX6_init_34 : decode cX6_init 34 = .ok (.newarray .long, 2) := by decide +kernel
theorem dX6_init_36 : decode cX6_init 36 = .ok (.putfield 22, 3) := by decide +kernel
theorem dX6_init_39 : decode cX6_init 39 = .ok (.iconst 0, 1) := by decide +kernel
theorem dX6_init_40 : decode cX6_init 40 = .ok (.istore_n 1, 1) := by decide +kernel
theorem dX6_init_41 : decode cX6_init 41 = .ok (.lconst 0, 1) := by decide +kernel
theorem dX6_init_42 : decode cX6_init 42 = .ok (.lstore_n 2, 1) := by decide +kernel
theorem dX6_init_43 : decode cX6_init 43 = .ok (.iconst 0, 1) := by decide +kernel
theorem dX6_init_44 : decode cX6_init 44 = .ok (.istore 4, 2) := by decide +kernel
theorem dX6_init_46 : decode cX6_init 46 = .ok (.iload 4, 2) := by decide +kernel
theorem dX6_init_48 : decode cX6_init 48 = .ok (.ldc 25, 2) := by decide +kernel
theorem dX6_init_50 : decode cX6_init 50 = .ok (.invokevirtual 27, 3) := by decide +kernel
theorem dX6_init_53 : decode cX6_init 53 = .ok (.if_icmp .ge 63, 3) := by decide +kernel
theorem dX6_init_56 : decode cX6_init 56 = .ok (.iload_n 1, 1) := by decide +kernel
theorem dX6_init_57 : decode cX6_init 57 = .ok (.bipush 40, 2) := by decide +kernel
theorem dX6_init_59 : decode cX6_init 59 = .ok (.if_icmp .ge 57, 3) := by decide +kernel
theorem dX6_init_62 : decode cX6_init 62 = .ok (.ldc 25, 2) := by decide +kernel
theorem dX6_init_64 : decode cX6_init 64 = .ok (.iload 4, 2) := by decide +kernel
theorem dX6_init_66 : decode cX6_init 66 = .ok (.invokevirtual 33, 3) := by decide +kernel
theorem dX6_init_69 : decode cX6_init 69 = .ok (.bipush 32, 2) := by decide +kernel
theorem dX6_init_71 : decode cX6_init 71 = .ok (.if_icmp .ne 18, 3) := by decide +kernel
theorem dX6_init_74 : decode cX6_init 74 = .ok (.aload_n 0, 1) := by decide +kernel
theorem dX6_init_75 : decode cX6_init 75 = .ok (.getfield 9, 3) := by decide +kernel
theorem dX6_init_78 : decode cX6_init 78 = .ok (.iload_n 1, 1) := by decide +kernel
theorem dX6_init_79 : decode cX6_init 79 = .ok (.lload_n 2, 1) := by decide +kernel
theorem dX6_init_80 : decode cX6_init 80 = .ok (.lastore, 1) := by decide +kernel
theorem dX6_init_81 : decode cX6_init 81 = .ok (.iinc 1 1, 3) := by decide +kernel
theorem dX6_init_84 : decode cX6_init 84 = .ok (.lconst 0, 1) := by decide +kernel
theorem dX6_init_85 : decode cX6_init 85 = .ok (.lstore_n 2, 1) := by decide +kernel
theorem dX6_init_86 : decode cX6_init 86 = .ok (.goto 24, 3) := by decide +kernel
theorem dX6_init_89 : decode cX6_init 89 = .ok (.lload_n 2, 1) := by decide +kernel
theorem dX6_init_90 : decode cX6_init 90 = .ok (.ldc2_w 37, 3) := by decide +kernel
theorem dX6_init_93 : decode cX6_init 93 = .ok (.lmul, 1) := by decide +kernel
theorem dX6_init_94 : decode cX6_init 94 = .ok (.ldc 25, 2) := by decide +kernel
theorem dX6_init_96 : decode cX6_init 96 = .ok (.iload 4, 2) := by decide +kernel
theorem dX6_init_98 : decode cX6_init 98 = .ok (.invokevirtual 33, 3) := by decide +kernel
theorem dX6_init_101 : decode cX6_init 101 = .ok (.i2l, 1) := by decide +kernel
theorem dX6_init_102 : decode cX6_init 102 = .ok (.ladd, 1) := by decide +kernel
theorem dX6_init_103 : decode cX6_init 103 = .ok (.ldc2_w 39, 3) := by decide +kernel
theorem dX6_init_106 : decode cX6_init 106 = .ok (.lsub, 1) := by decide +kernel
theorem dX6_init_107 : decode cX6_init 107 = .ok (.lconst 1, 1) := by decide +kernel
theorem dX6_init_108 : decode cX6_init 108 = .ok (.ladd, 1) := by decide +kernel
theorem dX6_init_109 : decode cX6_init 109 = .ok (.lstore_n 2, 1) := by decide +kernel
theorem dX6_init_110 : decode cX6_init 110 = .ok (.iinc 4 1, 3) := by decide +kernel
theorem dX6_init_113 : decode cX6_init 113 = .ok (.goto (-67), 3) := by decide +kernel
theorem dX6_init_116 : decode cX6_init 116 = .ok (.return_, 1) := by decide +kernel

def qh_ch (bf : Nat → Int32) (k : Nat) : Int32 := ((bf k &&& 255).toUInt32 % 65536).toInt32
/-- the keywords of a text's first k letters: how many, the one begun, all -/
def qh_kw (bf : Nat → Int32) : Nat → Nat × Int64 × (Nat → Int64)
  | 0 => (0, 0, fun _ => 0)
  | k + 1 => if qh_ch bf k = 32 then ((qh_kw bf k).1 + 1, 0, vp_updL (qh_kw bf k).2.2 (qh_kw bf k).1 (qh_kw bf k).2.1) else ((qh_kw bf k).1, (qh_kw bf k).2.1 * 37 + (qh_ch bf k).toInt64 - 97 + 1, (qh_kw bf k).2.2)
theorem qh_kw_sp {bf : Nat → Int32} {k : Nat} (h : qh_ch bf k = 32) : qh_kw bf (k + 1) = ((qh_kw bf k).1 + 1, 0, vp_updL (qh_kw bf k).2.2 (qh_kw bf k).1 (qh_kw bf k).2.1) := by rw [qh_kw, if_pos h]
theorem qh_kw_no {bf : Nat → Int32} {k : Nat} (h : ¬ qh_ch bf k = 32) : qh_kw bf (k + 1) = ((qh_kw bf k).1, (qh_kw bf k).2.1 * 37 + (qh_ch bf k).toInt64 - 97 + 1, (qh_kw bf k).2.2) := by rw [qh_kw, if_neg h]
set_option maxHeartbeats 4000000 in
set_option maxRecDepth 100000 in
/-- Parser() -/
theorem c_X6_init (l : Launch) (dC : Nat → ClassId) (dI : Nat → Nat → Nat) (sz : Nat) (cI cJ : ClassId) (h0 ks vs n : Nat) (bf : Nat → Int32) (hn31 : n < 2 ^ 31) (hkw : ∀ k, k < n → (qh_kw bf k).1 < 40) : Met l yX6_init wsX6_init ({ frames := 4, cells := 4, slots := 2045, locals := 150 }) (va_Pc [.ref h0] (fun U => U.heap.size = sz ∧ va_P (dC, dI) vwCl [(h0, .inr (11, [.null, .null, .null, .null, .int 0, .int 0, .null, .null, .int 0, .int 0, .int 0]))] U.heap ∧ va_K (dC, dI) vwCl [(cI, .int), (cJ, .long)] U ∧ va_D (fun _ => True) [(h0, .inr (11, [.null, .null, .null, .null, .int 0, .int 0, .null, .null, .int 0, .int 0, .int 0]))] ∧ vk_R RX6 25 "create table index on insert into values update set where delete from begin commit rollback number truth text not null select distinct left join group by having order desc or and is in true false count sum min max exists " ks U ∧ va_Z "java/lang/String" "COMPACT_STRINGS" "Z" (.int 1) (va_A [(h0, .inr (11, [.null, .null, .null, .null, .int 0, .int 0, .null, .null, .int 0, .int 0, .int 0]))] sz) U U.heap ∧ va_OF "java/lang/String" "coder" "B" (.int 0) ks (va_A [(h0, .inr (11, [.null, .null, .null, .null, .int 0, .int 0, .null, .null, .int 0, .int 0, .int 0]))] sz) U U.heap ∧ va_OF "java/lang/String" "value" "[B" (.ref vs) ks (va_A [(h0, .inr (11, [.null, .null, .null, .null, .int 0, .int 0, .null, .null, .int 0, .int 0, .int 0]))] sz) U U.heap ∧ va_O "java/lang/String" ks (va_A [(h0, .inr (11, [.null, .null, .null, .null, .int 0, .int 0, .null, .null, .int 0, .int 0, .int 0]))] sz) U U.heap ∧ va_T .byte vs n (fun j => .int (bf j)) (va_A [(h0, .inr (11, [.null, .null, .null, .null, .int 0, .int 0, .null, .null, .int 0, .int 0, .int 0]))] sz) U U.heap ∧ va_Zq "jdk/internal/util/Preconditions" "SIOOBE_FORMATTER" "Ljava/util/function/BiFunction;" (va_A [(h0, .inr (11, [.null, .null, .null, .null, .int 0, .int 0, .null, .null, .int 0, .int 0, .int 0]))] sz) U U.heap)) (va_Qv (fun (_ : Unit) => True) (fun (_ : Unit) (t : State) => ∃ (q_1 : Nat) (q_2 : Nat) (q_3 : Nat) (q_4 : Nat), va_P (dC, dI) vwCl [(h0, .inr (11, [.ref q_1, .ref q_2, .ref q_3, .ref q_4, .int 0, .int 0, .null, .null, .int 0, .int 0, .int 0])), (q_1, .inl (cJ, 40, .inr (.inl ((qh_kw bf n).2.2)))), (q_2, .inl (cI, 401, .inl (fun _ => 0))), (q_3, .inl (cI, 401, .inl (fun _ => 0))), (q_4, .inl (cJ, 1203, .inr (.inl (fun _ => 0))))] t.heap ∧ va_K (dC, dI) vwCl [(cI, .int), (cJ, .long)] t ∧ va_D (va_A [(h0, .inr (11, [.null, .null, .null, .null, .int 0, .int 0, .null, .null, .int 0, .int 0, .int 0]))] sz) [(h0, .inr (11, [.ref q_1, .ref q_2, .ref q_3, .ref q_4, .int 0, .int 0, .null, .null, .int 0, .int 0, .int 0])), (q_1, .inl (cJ, 40, .inr (.inl ((qh_kw bf n).2.2)))), (q_2, .inl (cI, 401, .inl (fun _ => 0))), (q_3, .inl (cI, 401, .inl (fun _ => 0))), (q_4, .inl (cJ, 1203, .inr (.inl (fun _ => 0))))]) (va_A [(h0, .inr (11, [.null, .null, .null, .null, .int 0, .int 0, .null, .null, .int 0, .int 0, .int 0]))] sz)) 4 2045 (va_A [(h0, .inr (11, [.null, .null, .null, .null, .int 0, .int 0, .null, .null, .int 0, .int 0, .int 0]))] sz) := by
  refine Met.ofW (cc := cX6_init) (maxL := 5) (ret := none) (by decide) rfl ?_
  intro p e s m args below meth c s₁ B hml hv
  obtain ⟨rfl, hsz, hP, hK, hD0, hE0, hE1, hE2, hE3, hE4, hE5, hE6⟩ := hv
  have hx := B.exec
  have hb := B.bytes
  have hr := B.returns
  have hts := atoms_spec (ws := wsX6_init) B.pre
  have hown : s.vm.findClass RX6 = some m.cls := findClass_of_methodNamed B.named
  have hlocks := B.notSynchronized
  have hin : meth.name = "<init>" := (name_of_methodNamed B.named B.method).1
  subst hsz
  have hD := hD0.self (sz := s.heap.size)
  generalize hAe : va_A [(h0, .inr (11, [.null, .null, .null, .null, .int 0, .int 0, .null, .null, .int 0, .int 0, .int 0]))] s.heap.size = A at hD hE1 hE2 hE3 hE4 hE5 hE6 ⊢
  have hA : ∀ q : Nat, s.heap.size ≤ q → A q := fun q h => by rw [← hAe]; exact Or.inr h
  have hS : va_S A s.heap s.heap [] := va_S.rf
  have hP : va_P (dC, dI) vwCl [(h0, .inr (11, [.null, .null, .null, .null, .int 0, .int 0, .null, .null, .int 0, .int 0, .int 0]))] s.heap := hP
  have hl := lv_entry ([.ref h0]) (n := 5) (Nat.le_of_ble_eq_true rfl)
  rw [lg_entry_eq]
  generalize (lg_sl ([.ref h0]) ++ List.replicate (5 - (lg_sl ([.ref h0])).length) Slot.unset).toArray = ls at hl ⊢
  have hl : lv_has ls 5 [(0, .ref h0)] := hl
  refine lv_aload_n hx hb dX6_init_0 rfl (lv_at hl 0 rfl) ?_
  refine W.objInit hx hb hown (hts (.methodLink RX6 3 objectInit) (by decide +kernel)) (hts (.instanceMethod objectInit) (by decide +kernel)) (hts (.code objectInit ⟨#[0xb1]⟩ 1 none) (by decide +kernel)) rfl (by rw [hml]; exact hl.1) rfl dX6_init_1 (Nat.le_of_ble_eq_true rfl) (Nat.le_of_ble_eq_true rfl) ?_
  refine W.eq (g2 := F0 m 4 ls []) rfl ?_
  refine lv_aload_n hx hb dX6_init_4 rfl (lv_at hl 0 rfl) ?_
  refine lv_bipush (v := 40) hx hb dX6_init_5 (by decide) ?_
  refine qh_newa (atype := .long) (ty := .long) (n := 40) (N' := 40) (a0 := (40, .inr (.inl (fun _ => 0)))) hx hb (hts (.arrayClass .long) (by decide +kernel)) rfl hK hP hD hS hA 1 rfl (qh_al 40) (by decide) (by decide) (by decide) (Nat.le_of_ble_eq_true rfl) (Nat.le_of_ble_eq_true rfl) dX6_init_7 (fun q_1 H hP hD hS => ?_)
  have hP : va_P (dC, dI) vwCl [(h0, .inr (11, [.null, .null, .null, .null, .int 0, .int 0, .null, .null, .int 0, .int 0, .int 0])), (q_1, .inl (cJ, 40, .inr (.inl (fun _ => 0))))] H := hP
  have hD : va_D A [(h0, .inr (11, [.null, .null, .null, .null, .int 0, .int 0, .null, .null, .int 0, .int 0, .int 0])), (q_1, .inl (cJ, 40, .inr (.inl (fun _ => 0))))] := hD
  refine va_putF (D := (dC, dI)) (ci := 11) (v := .ref q_1) (ty := .array .long) (C := RX6) (T := TX6) (N := 11) hx hb hts (by decide +kernel) tyX6 tyX6_ok nmX6 hown hK hP hD hS 0 rfl rfl 0 (by decide) (hts (.fieldLink RX6 9 "QueryHall$Parser" "words" "[J") (by decide +kernel)) (fun _ h9 => h9) rfl hin rfl (by decide +kernel) rfl rfl (Nat.le_of_ble_eq_true rfl) dX6_init_9 (fun H locs hP hD hS => ?_)
  have hP : va_P (dC, dI) vwCl [(h0, .inr (11, [.ref q_1, .null, .null, .null, .int 0, .int 0, .null, .null, .int 0, .int 0, .int 0])), (q_1, .inl (cJ, 40, .inr (.inl (fun _ => 0))))] H := hP
  have hD : va_D A [(h0, .inr (11, [.ref q_1, .null, .null, .null, .int 0, .int 0, .null, .null, .int 0, .int 0, .int 0])), (q_1, .inl (cJ, 40, .inr (.inl (fun _ => 0))))] := hD
  refine lv_aload_n hx hb dX6_init_12 rfl (lv_at hl 0 rfl) ?_
  refine lv_sipush (v := 401) hx hb dX6_init_13 (by decide) ?_
  refine qh_newa (atype := .int) (ty := .int) (n := 401) (N' := 401) (a0 := (401, .inl (fun _ => 0))) hx hb (hts (.arrayClass .int) (by decide +kernel)) rfl hK hP hD hS hA 0 rfl (qh_ai .int 401 rfl) (by decide) (by decide) (by decide) (Nat.le_of_ble_eq_true rfl) (Nat.le_of_ble_eq_true rfl) dX6_init_16 (fun q_2 H hP hD hS => ?_)
  have hP : va_P (dC, dI) vwCl [(h0, .inr (11, [.ref q_1, .null, .null, .null, .int 0, .int 0, .null, .null, .int 0, .int 0, .int 0])), (q_1, .inl (cJ, 40, .inr (.inl (fun _ => 0)))), (q_2, .inl (cI, 401, .inl (fun _ => 0)))] H := hP
  have hD : va_D A [(h0, .inr (11, [.ref q_1, .null, .null, .null, .int 0, .int 0, .null, .null, .int 0, .int 0, .int 0])), (q_1, .inl (cJ, 40, .inr (.inl (fun _ => 0)))), (q_2, .inl (cI, 401, .inl (fun _ => 0)))] := hD
  refine va_putF (D := (dC, dI)) (ci := 11) (v := .ref q_2) (ty := .array .int) (C := RX6) (T := TX6) (N := 11) hx hb hts (by decide +kernel) tyX6 tyX6_ok nmX6 hown hK hP hD hS 0 rfl rfl 1 (by decide) (hts (.fieldLink RX6 15 "QueryHall$Parser" "kinds" "[I") (by decide +kernel)) (fun _ h9 => h9) rfl hin rfl (by decide +kernel) rfl rfl (Nat.le_of_ble_eq_true rfl) dX6_init_18 (fun H locs hP hD hS => ?_)
  have hP : va_P (dC, dI) vwCl [(h0, .inr (11, [.ref q_1, .ref q_2, .null, .null, .int 0, .int 0, .null, .null, .int 0, .int 0, .int 0])), (q_1, .inl (cJ, 40, .inr (.inl (fun _ => 0)))), (q_2, .inl (cI, 401, .inl (fun _ => 0)))] H := hP
  have hD : va_D A [(h0, .inr (11, [.ref q_1, .ref q_2, .null, .null, .int 0, .int 0, .null, .null, .int 0, .int 0, .int 0])), (q_1, .inl (cJ, 40, .inr (.inl (fun _ => 0)))), (q_2, .inl (cI, 401, .inl (fun _ => 0)))] := hD
  refine lv_aload_n hx hb dX6_init_21 rfl (lv_at hl 0 rfl) ?_
  refine lv_sipush (v := 401) hx hb dX6_init_22 (by decide) ?_
  refine qh_newa (atype := .int) (ty := .int) (n := 401) (N' := 401) (a0 := (401, .inl (fun _ => 0))) hx hb (hts (.arrayClass .int) (by decide +kernel)) rfl hK hP hD hS hA 0 rfl (qh_ai .int 401 rfl) (by decide) (by decide) (by decide) (Nat.le_of_ble_eq_true rfl) (Nat.le_of_ble_eq_true rfl) dX6_init_25 (fun q_3 H hP hD hS => ?_)
  have hP : va_P (dC, dI) vwCl [(h0, .inr (11, [.ref q_1, .ref q_2, .null, .null, .int 0, .int 0, .null, .null, .int 0, .int 0, .int 0])), (q_1, .inl (cJ, 40, .inr (.inl (fun _ => 0)))), (q_2, .inl (cI, 401, .inl (fun _ => 0))), (q_3, .inl (cI, 401, .inl (fun _ => 0)))] H := hP
  have hD : va_D A [(h0, .inr (11, [.ref q_1, .ref q_2, .null, .null, .int 0, .int 0, .null, .null, .int 0, .int 0, .int 0])), (q_1, .inl (cJ, 40, .inr (.inl (fun _ => 0)))), (q_2, .inl (cI, 401, .inl (fun _ => 0))), (q_3, .inl (cI, 401, .inl (fun _ => 0)))] := hD
  refine va_putF (D := (dC, dI)) (ci := 11) (v := .ref q_3) (ty := .array .int) (C := RX6) (T := TX6) (N := 11) hx hb hts (by decide +kernel) tyX6 tyX6_ok nmX6 hown hK hP hD hS 0 rfl rfl 2 (by decide) (hts (.fieldLink RX6 19 "QueryHall$Parser" "places" "[I") (by decide +kernel)) (fun _ h9 => h9) rfl hin rfl (by decide +kernel) rfl rfl (Nat.le_of_ble_eq_true rfl) dX6_init_27 (fun H locs hP hD hS => ?_)
  have hP : va_P (dC, dI) vwCl [(h0, .inr (11, [.ref q_1, .ref q_2, .ref q_3, .null, .int 0, .int 0, .null, .null, .int 0, .int 0, .int 0])), (q_1, .inl (cJ, 40, .inr (.inl (fun _ => 0)))), (q_2, .inl (cI, 401, .inl (fun _ => 0))), (q_3, .inl (cI, 401, .inl (fun _ => 0)))] H := hP
  have hD : va_D A [(h0, .inr (11, [.ref q_1, .ref q_2, .ref q_3, .null, .int 0, .int 0, .null, .null, .int 0, .int 0, .int 0])), (q_1, .inl (cJ, 40, .inr (.inl (fun _ => 0)))), (q_2, .inl (cI, 401, .inl (fun _ => 0))), (q_3, .inl (cI, 401, .inl (fun _ => 0)))] := hD
  refine lv_aload_n hx hb dX6_init_30 rfl (lv_at hl 0 rfl) ?_
  refine lv_sipush (v := 1203) hx hb dX6_init_31 (by decide) ?_
  refine qh_newa (atype := .long) (ty := .long) (n := 1203) (N' := 1203) (a0 := (1203, .inr (.inl (fun _ => 0)))) hx hb (hts (.arrayClass .long) (by decide +kernel)) rfl hK hP hD hS hA 1 rfl (qh_al 1203) (by decide) (by decide) (by decide) (Nat.le_of_ble_eq_true rfl) (Nat.le_of_ble_eq_true rfl) dX6_init_34 (fun q_4 H hP hD hS => ?_)
  have hP : va_P (dC, dI) vwCl [(h0, .inr (11, [.ref q_1, .ref q_2, .ref q_3, .null, .int 0, .int 0, .null, .null, .int 0, .int 0, .int 0])), (q_1, .inl (cJ, 40, .inr (.inl (fun _ => 0)))), (q_2, .inl (cI, 401, .inl (fun _ => 0))), (q_3, .inl (cI, 401, .inl (fun _ => 0))), (q_4, .inl (cJ, 1203, .inr (.inl (fun _ => 0))))] H := hP
  have hD : va_D A [(h0, .inr (11, [.ref q_1, .ref q_2, .ref q_3, .null, .int 0, .int 0, .null, .null, .int 0, .int 0, .int 0])), (q_1, .inl (cJ, 40, .inr (.inl (fun _ => 0)))), (q_2, .inl (cI, 401, .inl (fun _ => 0))), (q_3, .inl (cI, 401, .inl (fun _ => 0))), (q_4, .inl (cJ, 1203, .inr (.inl (fun _ => 0))))] := hD
  refine va_putF (D := (dC, dI)) (ci := 11) (v := .ref q_4) (ty := .array .long) (C := RX6) (T := TX6) (N := 11) hx hb hts (by decide +kernel) tyX6 tyX6_ok nmX6 hown hK hP hD hS 0 rfl rfl 3 (by decide) (hts (.fieldLink RX6 22 "QueryHall$Parser" "values" "[J") (by decide +kernel)) (fun _ h9 => h9) rfl hin rfl (by decide +kernel) rfl rfl (Nat.le_of_ble_eq_true rfl) dX6_init_36 (fun H locs hP hD hS => ?_)
  have hP : va_P (dC, dI) vwCl [(h0, .inr (11, [.ref q_1, .ref q_2, .ref q_3, .ref q_4, .int 0, .int 0, .null, .null, .int 0, .int 0, .int 0])), (q_1, .inl (cJ, 40, .inr (.inl (fun _ => 0)))), (q_2, .inl (cI, 401, .inl (fun _ => 0))), (q_3, .inl (cI, 401, .inl (fun _ => 0))), (q_4, .inl (cJ, 1203, .inr (.inl (fun _ => 0))))] H := hP
  have hD : va_D A [(h0, .inr (11, [.ref q_1, .ref q_2, .ref q_3, .ref q_4, .int 0, .int 0, .null, .null, .int 0, .int 0, .int 0])), (q_1, .inl (cJ, 40, .inr (.inl (fun _ => 0)))), (q_2, .inl (cI, 401, .inl (fun _ => 0))), (q_3, .inl (cI, 401, .inl (fun _ => 0))), (q_4, .inl (cJ, 1203, .inr (.inl (fun _ => 0))))] := hD
  refine lv_iconst (v := 0) hx hb dX6_init_39 (by decide) ?_
  refine lv_istore_n (lv' := [(1, .int 0), (0, .ref h0)]) hx hb dX6_init_40 rfl hl (by decide) rfl (fun ls hl => ?_)
  refine lv_lconst (v := 0) hx hb dX6_init_41 (by decide) ?_
  refine lv_lstore_n (lv' := [(2, .long 0), (1, .int 0), (0, .ref h0)]) hx hb dX6_init_42 rfl hl (by decide) rfl (fun ls hl => ?_)
  refine lv_iconst (v := 0) hx hb dX6_init_43 (by decide) ?_
  refine lv_istore (lv' := [(4, .int 0), (2, .long 0), (1, .int 0), (0, .ref h0)]) hx hb dX6_init_44 hl (by decide) rfl (fun ls hl => ?_)
  have hP0 : va_P (dC, dI) vwCl [(h0, .inr (11, [.ref q_1, .ref q_2, .ref q_3, .ref q_4, .int 0, .int 0, .null, .null, .int 0, .int 0, .int 0])), (q_1, .inl (cJ, 40, .inr (.inl ((qh_kw bf 0).2.2)))), (q_2, .inl (cI, 401, .inl (fun _ => 0))), (q_3, .inl (cI, 401, .inl (fun _ => 0))), (q_4, .inl (cJ, 1203, .inr (.inl (fun _ => 0))))] H := by
    have hw9 : ([(h0, .inr (11, [.ref q_1, .ref q_2, .ref q_3, .ref q_4, .int 0, .int 0, .null, .null, .int 0, .int 0, .int 0])), (q_1, .inl (cJ, 40, .inr (.inl (fun _ => 0)))), (q_2, .inl (cI, 401, .inl (fun _ => 0))), (q_3, .inl (cI, 401, .inl (fun _ => 0))), (q_4, .inl (cJ, 1203, .inr (.inl (fun _ => 0))))] : va_W) = [(h0, .inr (11, [.ref q_1, .ref q_2, .ref q_3, .ref q_4, .int 0, .int 0, .null, .null, .int 0, .int 0, .int 0])), (q_1, .inl (cJ, 40, .inr (.inl ((qh_kw bf 0).2.2)))), (q_2, .inl (cI, 401, .inl (fun _ => 0))), (q_3, .inl (cI, 401, .inl (fun _ => 0))), (q_4, .inl (cJ, 1203, .inr (.inl (fun _ => 0))))] := by rfl
    rw [← hw9]; exact hP
  have hD0 : va_D A [(h0, .inr (11, [.ref q_1, .ref q_2, .ref q_3, .ref q_4, .int 0, .int 0, .null, .null, .int 0, .int 0, .int 0])), (q_1, .inl (cJ, 40, .inr (.inl ((qh_kw bf 0).2.2)))), (q_2, .inl (cI, 401, .inl (fun _ => 0))), (q_3, .inl (cI, 401, .inl (fun _ => 0))), (q_4, .inl (cJ, 1203, .inr (.inl (fun _ => 0))))] := by
    have hw9 : ([(h0, .inr (11, [.ref q_1, .ref q_2, .ref q_3, .ref q_4, .int 0, .int 0, .null, .null, .int 0, .int 0, .int 0])), (q_1, .inl (cJ, 40, .inr (.inl (fun _ => 0)))), (q_2, .inl (cI, 401, .inl (fun _ => 0))), (q_3, .inl (cI, 401, .inl (fun _ => 0))), (q_4, .inl (cJ, 1203, .inr (.inl (fun _ => 0))))] : va_W) = [(h0, .inr (11, [.ref q_1, .ref q_2, .ref q_3, .ref q_4, .int 0, .int 0, .null, .null, .int 0, .int 0, .int 0])), (q_1, .inl (cJ, 40, .inr (.inl ((qh_kw bf 0).2.2)))), (q_2, .inl (cI, 401, .inl (fun _ => 0))), (q_3, .inl (cI, 401, .inl (fun _ => 0))), (q_4, .inl (cJ, 1203, .inr (.inl (fun _ => 0))))] := by rfl
    rw [← hw9]; exact hD
  have hl0 := lv_sub hl (l' := [(0, .ref h0), (1, .int 0), (2, .long 0), (4, .int 0)]) [3, 2, 1, 0] rfl
  have hl1 : lv_has ls 5 [(0, .ref h0), (1, .int (nI (qh_kw bf 0).1)), (2, .long ((qh_kw bf 0).2.1)), (4, .int (nI 0))] := by
    have hw9 : ([(0, .ref h0), (1, .int 0), (2, .long 0), (4, .int 0)] : List (Nat × Value)) = [(0, .ref h0), (1, .int (nI (qh_kw bf 0).1)), (2, .long ((qh_kw bf 0).2.1)), (4, .int (nI 0))] := by rw [nI_0]; rfl
    rw [← hw9]; exact hl0
  refine qh_while (pc := 46) (st := []) (fun μ H locs ls => ∃ (k : Nat), (k ≤ n) ∧ μ = n - k ∧ va_P (dC, dI) vwCl [(h0, .inr (11, [.ref q_1, .ref q_2, .ref q_3, .ref q_4, .int 0, .int 0, .null, .null, .int 0, .int 0, .int 0])), (q_1, .inl (cJ, 40, .inr (.inl ((qh_kw bf k).2.2)))), (q_2, .inl (cI, 401, .inl (fun _ => 0))), (q_3, .inl (cI, 401, .inl (fun _ => 0))), (q_4, .inl (cJ, 1203, .inr (.inl (fun _ => 0))))] H ∧ va_D A [(h0, .inr (11, [.ref q_1, .ref q_2, .ref q_3, .ref q_4, .int 0, .int 0, .null, .null, .int 0, .int 0, .int 0])), (q_1, .inl (cJ, 40, .inr (.inl ((qh_kw bf k).2.2)))), (q_2, .inl (cI, 401, .inl (fun _ => 0))), (q_3, .inl (cI, 401, .inl (fun _ => 0))), (q_4, .inl (cJ, 1203, .inr (.inl (fun _ => 0))))] ∧ va_S A s.heap H locs ∧ lv_has ls 5 [(0, .ref h0), (1, .int (nI (qh_kw bf k).1)), (2, .long ((qh_kw bf k).2.1)), (4, .int (nI k))]) (fun μ H locs ls hI ih => ?_) _ ⟨0, Nat.zero_le n, rfl, hP0, hD0, hS, hl1⟩
  clear hP0 hD0 hl0 hl1 hP hD hS hl
  obtain ⟨k, hcnd, hμ, hP, hD, hS, hl⟩ := hI
  subst hμ
  refine lv_iload hx hb dX6_init_46 (lv_at hl 3 rfl) ?_
  refine va_ldcS hx hb hown hE0 dX6_init_48 ?_
  have hPc := hP.sub (ws' := []) [] rfl
  have hDc := hD.sub (ws' := []) [] (by decide) rfl
  have hKc := hK.sub (tys' := []) [] rfl
  have hFc := va_free (wc := []) hD hS hA [] rfl
  refine va_calli (va_runV (As := []) (rest := [.int (nI k)]) ⟨hx, hb, hml, hown, hts⟩ (c_J0_length_8abf5 l dC dI H.size ks vs n bf) (cwV 0 hts gX6_init_J0_length_8abf5 rfl rfl rfl (by decide +kernel) ⟨Nat.le_of_ble_eq_true rfl, Nat.le_of_ble_eq_true rfl⟩) ⟨fun a U g mk q => by obtain ⟨q0, q1, qP, qK, qD, qE0, qE1, qE2, qE3, qE4⟩ := q; exact ⟨q0, q1, qP, va_K.moved (u := U) (U := U.calling g mk a) (Vm.Alike.refl U.vm) qK, qD, va_Z.moved (u := U) (U := U.calling g mk a) (Vm.Alike.refl U.vm) qE0, va_OF.moved (u := U) (U := U.calling g mk a) (Vm.Alike.refl U.vm) qE1, va_OF.moved (u := U) (U := U.calling g mk a) (Vm.Alike.refl U.vm) qE2, va_O.moved (u := U) (U := U.calling g mk a) (Vm.Alike.refl U.vm) qE3, va_T.moved (u := U) (U := U.calling g mk a) (Vm.Alike.refl U.vm) qE4⟩, (qh_recvO hE4 hS), fun U hU hW => ⟨rfl, by rw [hU], by rw [hU]; exact hPc, va_K.moved hW.alike hKc, hDc.weaken (fun _ _ _ _ => trivial), by rw [hU]; exact va_Z.moved hW.alike (va_Z.narrow (va_Z.kept hE1 hS.2.1) (fun q h => hFc q h)), by rw [hU]; exact va_OF.moved hW.alike (va_OF.narrow (va_OF.kept hE2 hS.2.1) (fun q h => hFc q h)), by rw [hU]; exact va_OF.moved hW.alike (va_OF.narrow (va_OF.kept hE3 hS.2.1) (fun q h => hFc q h)), by rw [hU]; exact va_O.moved hW.alike (va_O.narrow (va_O.kept hE4 hS.2.1) (fun q h => hFc q h)), by rw [hU]; exact va_T.moved hW.alike (va_T.narrow (va_T.kept hE5 hS.2.1) (fun q h => hFc q h))⟩⟩ rfl rfl hl.1 rfl (lv_room (Nat.le_of_ble_eq_true rfl)) dX6_init_50 ⟨Nat.le_of_ble_eq_true rfl, Nat.le_of_ble_eq_true rfl⟩) hS (fun q _ h => hFc q h) hFc (fun r_5 u t H1 locs ht hvm hw hB hz1 hk1 hS => ?_)
  obtain ⟨hP1, hK1, hD1⟩ := hB
  rw [ht] at hP1
  obtain ⟨hP, hD⟩ := va_join (wr := [(h0, .inr (11, [.ref q_1, .ref q_2, .ref q_3, .ref q_4, .int 0, .int 0, .null, .null, .int 0, .int 0, .int 0])), (q_1, .inl (cJ, 40, .inr (.inl ((qh_kw bf k).2.2)))), (q_2, .inl (cI, 401, .inl (fun _ => 0))), (q_3, .inl (cI, 401, .inl (fun _ => 0))), (q_4, .inl (cJ, 1203, .inr (.inl (fun _ => 0))))]) (w1 := []) hP hD [] [0, 1, 2, 3, 4] rfl rfl (by decide) (by decide) hk1 hFc hP1 hD1
  generalize H1 = H at hP hS ⊢
  have hP := hP.sub (ws' := [(h0, .inr (11, [.ref q_1, .ref q_2, .ref q_3, .ref q_4, .int 0, .int 0, .null, .null, .int 0, .int 0, .int 0])), (q_1, .inl (cJ, 40, .inr (.inl ((qh_kw bf k).2.2)))), (q_2, .inl (cI, 401, .inl (fun _ => 0))), (q_3, .inl (cI, 401, .inl (fun _ => 0))), (q_4, .inl (cJ, 1203, .inr (.inl (fun _ => 0))))]) [0, 1, 2, 3, 4] rfl
  have hD := hD.sub (ws' := [(h0, .inr (11, [.ref q_1, .ref q_2, .ref q_3, .ref q_4, .int 0, .int 0, .null, .null, .int 0, .int 0, .int 0])), (q_1, .inl (cJ, 40, .inr (.inl ((qh_kw bf k).2.2)))), (q_2, .inl (cI, 401, .inl (fun _ => 0))), (q_3, .inl (cI, 401, .inl (fun _ => 0))), (q_4, .inl (cJ, 1203, .inr (.inl (fun _ => 0))))]) [0, 1, 2, 3, 4] (by decide) rfl
  have hw : r_5 = nI n >>> (0 &&& 31) := hw
  subst hw
  refine lv_icmp_ge (tgt := 116) hx hb dX6_init_53 (by decide) (fun c_6 => ?_) (fun c_6 => ?_)
  · skip
    have hkn : k = n := by
      have h9 := c_6
      rw [sb_shr0] at h9
      rcases Nat.lt_or_ge k n with q | q
      · exact absurd h9 (nI_ge q (by omega))
      · omega
    rw [hkn] at hP hD
    have hP9 := hP.sub (ws' := [(h0, .inr (11, [.ref q_1, .ref q_2, .ref q_3, .ref q_4, .int 0, .int 0, .null, .null, .int 0, .int 0, .int 0])), (q_1, .inl (cJ, 40, .inr (.inl ((qh_kw bf n).2.2)))), (q_2, .inl (cI, 401, .inl (fun _ => 0))), (q_3, .inl (cI, 401, .inl (fun _ => 0))), (q_4, .inl (cJ, 1203, .inr (.inl (fun _ => 0))))]) [0, 1, 2, 3, 4] rfl
    have hD9 := hD.sub (ws' := [(h0, .inr (11, [.ref q_1, .ref q_2, .ref q_3, .ref q_4, .int 0, .int 0, .null, .null, .int 0, .int 0, .int 0])), (q_1, .inl (cJ, 40, .inr (.inl ((qh_kw bf n).2.2)))), (q_2, .inl (cI, 401, .inl (fun _ => 0))), (q_3, .inl (cI, 401, .inl (fun _ => 0))), (q_4, .inl (cJ, 1203, .inr (.inl (fun _ => 0))))]) [0, 1, 2, 3, 4] (by decide) rfl
    have hK9 := hK.sub (tys' := [(cI, .int), (cJ, .long)]) [0, 1] rfl
    exact W.vret hx hb hr (fun t ht hW => ⟨⟨(), rfl, trivial, q_1, q_2, q_3, q_4, by rw [ht]; exact hP9, va_K.moved hW.alike hK9, hD9⟩, hS.F ht⟩) hS.2.2 dX6_init_116
  · skip
    have hlt : k < n := by
      rcases Nat.lt_or_ge k n with q | q
      · exact q
      · exact absurd (by rw [sb_shr0]; exact nI_le q (by omega)) c_6
    refine lv_iload_n hx hb dX6_init_56 rfl (lv_at hl 1 rfl) ?_
    refine lv_bipush (v := 40) hx hb dX6_init_57 (by decide) ?_
    refine lv_icmp_ge (tgt := 116) hx hb dX6_init_59 (by decide) (fun c_7 => absurd c_7 (show ¬ nI 40 ≤ nI (qh_kw bf k).1 from nI_ge (hkw k hlt) (by decide))) (fun c_7 => ?_)
    refine va_ldcS hx hb hown hE0 dX6_init_62 ?_
    refine lv_iload hx hb dX6_init_64 (lv_at hl 3 rfl) ?_
    have hPc := hP.sub (ws' := []) [] rfl
    have hDc := hD.sub (ws' := []) [] (by decide) rfl
    have hKc := hK.sub (tys' := []) [] rfl
    have hFc := va_free (wc := []) hD hS hA [] rfl
    refine va_calli (va_runV (As := [.int (nI k)]) (rest := []) ⟨hx, hb, hml, hown, hts⟩ (c_J0_charAt_5068e l dC dI H.size ks vs n bf (nI k) ((nI_pos (by omega))) ((nI_lt hlt (by omega))) ((vp_in_nI hlt (by omega)))) (cwV 1 hts gX6_init_J0_charAt_5068e rfl rfl rfl (by decide +kernel) ⟨Nat.le_of_ble_eq_true rfl, Nat.le_of_ble_eq_true rfl⟩) ⟨fun a U g mk q => by obtain ⟨q0, q1, qP, qK, qD, qE0, qE1, qE2, qE3, qE4, qE5⟩ := q; exact ⟨q0, q1, qP, va_K.moved (u := U) (U := U.calling g mk a) (Vm.Alike.refl U.vm) qK, qD, va_Z.moved (u := U) (U := U.calling g mk a) (Vm.Alike.refl U.vm) qE0, va_OF.moved (u := U) (U := U.calling g mk a) (Vm.Alike.refl U.vm) qE1, va_OF.moved (u := U) (U := U.calling g mk a) (Vm.Alike.refl U.vm) qE2, va_O.moved (u := U) (U := U.calling g mk a) (Vm.Alike.refl U.vm) qE3, va_T.moved (u := U) (U := U.calling g mk a) (Vm.Alike.refl U.vm) qE4, va_Zq.moved (u := U) (U := U.calling g mk a) (Vm.Alike.refl U.vm) qE5⟩, (qh_recvO hE4 hS), fun U hU hW => ⟨rfl, by rw [hU], by rw [hU]; exact hPc, va_K.moved hW.alike hKc, hDc.weaken (fun _ _ _ _ => trivial), by rw [hU]; exact va_Z.moved hW.alike (va_Z.narrow (va_Z.kept hE1 hS.2.1) (fun q h => hFc q h)), by rw [hU]; exact va_OF.moved hW.alike (va_OF.narrow (va_OF.kept hE2 hS.2.1) (fun q h => hFc q h)), by rw [hU]; exact va_OF.moved hW.alike (va_OF.narrow (va_OF.kept hE3 hS.2.1) (fun q h => hFc q h)), by rw [hU]; exact va_O.moved hW.alike (va_O.narrow (va_O.kept hE4 hS.2.1) (fun q h => hFc q h)), by rw [hU]; exact va_T.moved hW.alike (va_T.narrow (va_T.kept hE5 hS.2.1) (fun q h => hFc q h)), by rw [hU]; exact va_Zq.moved hW.alike (va_Zq.narrow (va_Zq.kept hE6 hS.2.1) (fun q h => hFc q h))⟩⟩ rfl rfl hl.1 rfl (lv_room (Nat.le_of_ble_eq_true rfl)) dX6_init_66 ⟨Nat.le_of_ble_eq_true rfl, Nat.le_of_ble_eq_true rfl⟩) hS (fun q _ h => hFc q h) hFc (fun r_8 u t H1 locs ht hvm hw hB hz1 hk1 hS => ?_)
    obtain ⟨hP1, hK1, hD1⟩ := hB
    rw [ht] at hP1
    obtain ⟨hP, hD⟩ := va_join (wr := [(h0, .inr (11, [.ref q_1, .ref q_2, .ref q_3, .ref q_4, .int 0, .int 0, .null, .null, .int 0, .int 0, .int 0])), (q_1, .inl (cJ, 40, .inr (.inl ((qh_kw bf k).2.2)))), (q_2, .inl (cI, 401, .inl (fun _ => 0))), (q_3, .inl (cI, 401, .inl (fun _ => 0))), (q_4, .inl (cJ, 1203, .inr (.inl (fun _ => 0))))]) (w1 := []) hP hD [] [0, 1, 2, 3, 4] rfl rfl (by decide) (by decide) hk1 hFc hP1 hD1
    generalize H1 = H at hP hS ⊢
    have hP := hP.sub (ws' := [(h0, .inr (11, [.ref q_1, .ref q_2, .ref q_3, .ref q_4, .int 0, .int 0, .null, .null, .int 0, .int 0, .int 0])), (q_1, .inl (cJ, 40, .inr (.inl ((qh_kw bf k).2.2)))), (q_2, .inl (cI, 401, .inl (fun _ => 0))), (q_3, .inl (cI, 401, .inl (fun _ => 0))), (q_4, .inl (cJ, 1203, .inr (.inl (fun _ => 0))))]) [0, 1, 2, 3, 4] rfl
    have hD := hD.sub (ws' := [(h0, .inr (11, [.ref q_1, .ref q_2, .ref q_3, .ref q_4, .int 0, .int 0, .null, .null, .int 0, .int 0, .int 0])), (q_1, .inl (cJ, 40, .inr (.inl ((qh_kw bf k).2.2)))), (q_2, .inl (cI, 401, .inl (fun _ => 0))), (q_3, .inl (cI, 401, .inl (fun _ => 0))), (q_4, .inl (cJ, 1203, .inr (.inl (fun _ => 0))))]) [0, 1, 2, 3, 4] (by decide) rfl
    have hw : r_8 = ((bf (nI k).toNatClampNeg &&& 255).toUInt32 % 65536).toInt32 := hw
    subst hw
    refine lv_bipush (v := 32) hx hb dX6_init_69 (by decide) ?_
    refine lv_icmp_ne (tgt := 89) hx hb dX6_init_71 (by decide) (fun c_9 => ?_) (fun c_9 => ?_)
    · skip
      refine lv_lload_n hx hb dX6_init_89 rfl (lv_at hl 2 rfl) ?_
      refine lv_ldc2 (own := RX6) (v := 37) hx hb hown (hts (.constantLong RX6 37 (37)) (by decide +kernel)) dX6_init_90 ?_
      refine lv_lmul hx hb dX6_init_93 ?_
      refine va_ldcS hx hb hown hE0 dX6_init_94 ?_
      refine lv_iload hx hb dX6_init_96 (lv_at hl 3 rfl) ?_
      have hPc := hP.sub (ws' := []) [] rfl
      have hDc := hD.sub (ws' := []) [] (by decide) rfl
      have hKc := hK.sub (tys' := []) [] rfl
      have hFc := va_free (wc := []) hD hS hA [] rfl
      refine va_calli (va_runV (As := [.int (nI k)]) (rest := [.long (((qh_kw bf k).2.1) * 37)]) ⟨hx, hb, hml, hown, hts⟩ (c_J0_charAt_5068e l dC dI H.size ks vs n bf (nI k) ((nI_pos (by omega))) ((nI_lt hlt (by omega))) ((vp_in_nI hlt (by omega)))) (cwV 1 hts gX6_init_J0_charAt_5068e rfl rfl rfl (by decide +kernel) ⟨Nat.le_of_ble_eq_true rfl, Nat.le_of_ble_eq_true rfl⟩) ⟨fun a U g mk q => by obtain ⟨q0, q1, qP, qK, qD, qE0, qE1, qE2, qE3, qE4, qE5⟩ := q; exact ⟨q0, q1, qP, va_K.moved (u := U) (U := U.calling g mk a) (Vm.Alike.refl U.vm) qK, qD, va_Z.moved (u := U) (U := U.calling g mk a) (Vm.Alike.refl U.vm) qE0, va_OF.moved (u := U) (U := U.calling g mk a) (Vm.Alike.refl U.vm) qE1, va_OF.moved (u := U) (U := U.calling g mk a) (Vm.Alike.refl U.vm) qE2, va_O.moved (u := U) (U := U.calling g mk a) (Vm.Alike.refl U.vm) qE3, va_T.moved (u := U) (U := U.calling g mk a) (Vm.Alike.refl U.vm) qE4, va_Zq.moved (u := U) (U := U.calling g mk a) (Vm.Alike.refl U.vm) qE5⟩, (qh_recvO hE4 hS), fun U hU hW => ⟨rfl, by rw [hU], by rw [hU]; exact hPc, va_K.moved hW.alike hKc, hDc.weaken (fun _ _ _ _ => trivial), by rw [hU]; exact va_Z.moved hW.alike (va_Z.narrow (va_Z.kept hE1 hS.2.1) (fun q h => hFc q h)), by rw [hU]; exact va_OF.moved hW.alike (va_OF.narrow (va_OF.kept hE2 hS.2.1) (fun q h => hFc q h)), by rw [hU]; exact va_OF.moved hW.alike (va_OF.narrow (va_OF.kept hE3 hS.2.1) (fun q h => hFc q h)), by rw [hU]; exact va_O.moved hW.alike (va_O.narrow (va_O.kept hE4 hS.2.1) (fun q h => hFc q h)), by rw [hU]; exact va_T.moved hW.alike (va_T.narrow (va_T.kept hE5 hS.2.1) (fun q h => hFc q h)), by rw [hU]; exact va_Zq.moved hW.alike (va_Zq.narrow (va_Zq.kept hE6 hS.2.1) (fun q h => hFc q h))⟩⟩ rfl rfl hl.1 rfl (lv_room (Nat.le_of_ble_eq_true rfl)) dX6_init_98 ⟨Nat.le_of_ble_eq_true rfl, Nat.le_of_ble_eq_true rfl⟩) hS (fun q _ h => hFc q h) hFc (fun r_10 u t H1 locs ht hvm hw hB hz1 hk1 hS => ?_)
      obtain ⟨hP1, hK1, hD1⟩ := hB
      rw [ht] at hP1
      obtain ⟨hP, hD⟩ := va_join (wr := [(h0, .inr (11, [.ref q_1, .ref q_2, .ref q_3, .ref q_4, .int 0, .int 0, .null, .null, .int 0, .int 0, .int 0])), (q_1, .inl (cJ, 40, .inr (.inl ((qh_kw bf k).2.2)))), (q_2, .inl (cI, 401, .inl (fun _ => 0))), (q_3, .inl (cI, 401, .inl (fun _ => 0))), (q_4, .inl (cJ, 1203, .inr (.inl (fun _ => 0))))]) (w1 := []) hP hD [] [0, 1, 2, 3, 4] rfl rfl (by decide) (by decide) hk1 hFc hP1 hD1
      generalize H1 = H at hP hS ⊢
      have hP := hP.sub (ws' := [(h0, .inr (11, [.ref q_1, .ref q_2, .ref q_3, .ref q_4, .int 0, .int 0, .null, .null, .int 0, .int 0, .int 0])), (q_1, .inl (cJ, 40, .inr (.inl ((qh_kw bf k).2.2)))), (q_2, .inl (cI, 401, .inl (fun _ => 0))), (q_3, .inl (cI, 401, .inl (fun _ => 0))), (q_4, .inl (cJ, 1203, .inr (.inl (fun _ => 0))))]) [0, 1, 2, 3, 4] rfl
      have hD := hD.sub (ws' := [(h0, .inr (11, [.ref q_1, .ref q_2, .ref q_3, .ref q_4, .int 0, .int 0, .null, .null, .int 0, .int 0, .int 0])), (q_1, .inl (cJ, 40, .inr (.inl ((qh_kw bf k).2.2)))), (q_2, .inl (cI, 401, .inl (fun _ => 0))), (q_3, .inl (cI, 401, .inl (fun _ => 0))), (q_4, .inl (cJ, 1203, .inr (.inl (fun _ => 0))))]) [0, 1, 2, 3, 4] (by decide) rfl
      have hw : r_10 = ((bf (nI k).toNatClampNeg &&& 255).toUInt32 % 65536).toInt32 := hw
      subst hw
      refine lv_i2l hx hb dX6_init_101 rfl ?_
      refine lv_ladd hx hb dX6_init_102 ?_
      refine lv_ldc2 (own := RX6) (v := 97) hx hb hown (hts (.constantLong RX6 39 (97)) (by decide +kernel)) dX6_init_103 ?_
      refine lv_lsub hx hb dX6_init_106 ?_
      refine lv_lconst (v := 1) hx hb dX6_init_107 (by decide) ?_
      refine lv_ladd hx hb dX6_init_108 ?_
      refine lv_topl (fun x_11 ex_11 => ?_)
      refine lv_lstore_n (lv' := [(2, .long x_11), (0, .ref h0), (1, .int (nI (qh_kw bf k).1)), (4, .int (nI k))]) hx hb dX6_init_109 rfl hl (by decide) rfl (fun ls hl => ?_)
      obtain ⟨x_12, ex_12⟩ : ∃ y : Int32, y = (nI k) + 1 := ⟨_, rfl⟩
      refine lv_iinc (v := x_12) (lv' := [(4, .int x_12), (2, .long x_11), (0, .ref h0), (1, .int (nI (qh_kw bf k).1))]) hx hb dX6_init_110 hl (k := 3) rfl (by rw [ex_12]; rfl) (by decide) rfl (fun ls hl => ?_)
      refine lv_goto (tgt := 46) hx hb dX6_init_113 (by decide) ?_
      refine ih _ _ _ _ (by omega) ⟨(k + 1), (by omega), rfl, ?_, ?_, hS, ?_⟩
      · have hw9 : ([(h0, .inr (11, [.ref q_1, .ref q_2, .ref q_3, .ref q_4, .int 0, .int 0, .null, .null, .int 0, .int 0, .int 0])), (q_1, .inl (cJ, 40, .inr (.inl ((qh_kw bf k).2.2)))), (q_2, .inl (cI, 401, .inl (fun _ => 0))), (q_3, .inl (cI, 401, .inl (fun _ => 0))), (q_4, .inl (cJ, 1203, .inr (.inl (fun _ => 0))))] : va_W) = [(h0, .inr (11, [.ref q_1, .ref q_2, .ref q_3, .ref q_4, .int 0, .int 0, .null, .null, .int 0, .int 0, .int 0])), (q_1, .inl (cJ, 40, .inr (.inl ((qh_kw bf ((k + 1))).2.2)))), (q_2, .inl (cI, 401, .inl (fun _ => 0))), (q_3, .inl (cI, 401, .inl (fun _ => 0))), (q_4, .inl (cJ, 1203, .inr (.inl (fun _ => 0))))] := by rw [qh_kw_no (by have h9 := c_9; rw [nI_clamp (show k < 2 ^ 31 by omega)] at h9; exact h9)]
        rw [← hw9]; exact hP
      · have hw9 : ([(h0, .inr (11, [.ref q_1, .ref q_2, .ref q_3, .ref q_4, .int 0, .int 0, .null, .null, .int 0, .int 0, .int 0])), (q_1, .inl (cJ, 40, .inr (.inl ((qh_kw bf k).2.2)))), (q_2, .inl (cI, 401, .inl (fun _ => 0))), (q_3, .inl (cI, 401, .inl (fun _ => 0))), (q_4, .inl (cJ, 1203, .inr (.inl (fun _ => 0))))] : va_W) = [(h0, .inr (11, [.ref q_1, .ref q_2, .ref q_3, .ref q_4, .int 0, .int 0, .null, .null, .int 0, .int 0, .int 0])), (q_1, .inl (cJ, 40, .inr (.inl ((qh_kw bf ((k + 1))).2.2)))), (q_2, .inl (cI, 401, .inl (fun _ => 0))), (q_3, .inl (cI, 401, .inl (fun _ => 0))), (q_4, .inl (cJ, 1203, .inr (.inl (fun _ => 0))))] := by rw [qh_kw_no (by have h9 := c_9; rw [nI_clamp (show k < 2 ^ 31 by omega)] at h9; exact h9)]
        rw [← hw9]; exact hD
      · have hl := lv_sub hl [2, 3, 1, 0] rfl
        have hw9 : ([(0, .ref h0), (1, .int (nI (qh_kw bf k).1)), (2, .long x_11), (4, .int x_12)] : List (Nat × Value)) = [(0, .ref h0), (1, .int (nI (qh_kw bf ((k + 1))).1)), (2, .long ((qh_kw bf ((k + 1))).2.1)), (4, .int (nI ((k + 1))))] := by rw [qh_kw_no (by have h9 := c_9; rw [nI_clamp (show k < 2 ^ 31 by omega)] at h9; exact h9), ex_11, ex_12, nI_1, nI_clamp (show k < 2 ^ 31 by omega)]; rfl
        rw [← hw9]; exact hl
    · skip
      refine lv_aload_n hx hb dX6_init_74 rfl (lv_at hl 0 rfl) ?_
      refine va_get (D := (dC, dI)) (ci := 11) (v := .ref q_1) (C := RX6) (T := TX6) (N := 11) hx hb hts (by decide +kernel) hown hK hP 0 rfl rfl 0 (by decide) (hts (.fieldLink RX6 9 "QueryHall$Parser" "words" "[J") (by decide +kernel)) (fun _ h9 => h9) rfl dX6_init_75 ?_
      refine lv_iload_n hx hb dX6_init_78 rfl (lv_at hl 1 rfl) ?_
      refine lv_lload_n hx hb dX6_init_79 rfl (lv_at hl 2 rfl) ?_
      refine va_last hx hb hK hP hD hS 1 1 rfl rfl (vp_in_nI (hkw k hlt) (by decide)) dX6_init_80 (fun H locs hP hD hS => ?_)
      have hP : va_P (dC, dI) vwCl [(h0, .inr (11, [.ref q_1, .ref q_2, .ref q_3, .ref q_4, .int 0, .int 0, .null, .null, .int 0, .int 0, .int 0])), (q_1, .inl (cJ, 40, .inr (.inl (vp_updL ((qh_kw bf k).2.2) (nI (qh_kw bf k).1).toNatClampNeg ((qh_kw bf k).2.1))))), (q_2, .inl (cI, 401, .inl (fun _ => 0))), (q_3, .inl (cI, 401, .inl (fun _ => 0))), (q_4, .inl (cJ, 1203, .inr (.inl (fun _ => 0))))] H := hP
      have hD : va_D A [(h0, .inr (11, [.ref q_1, .ref q_2, .ref q_3, .ref q_4, .int 0, .int 0, .null, .null, .int 0, .int 0, .int 0])), (q_1, .inl (cJ, 40, .inr (.inl (vp_updL ((qh_kw bf k).2.2) (nI (qh_kw bf k).1).toNatClampNeg ((qh_kw bf k).2.1))))), (q_2, .inl (cI, 401, .inl (fun _ => 0))), (q_3, .inl (cI, 401, .inl (fun _ => 0))), (q_4, .inl (cJ, 1203, .inr (.inl (fun _ => 0))))] := hD
      obtain ⟨x_13, ex_13⟩ : ∃ y : Int32, y = (nI (qh_kw bf k).1) + 1 := ⟨_, rfl⟩
      refine lv_iinc (v := x_13) (lv' := [(1, .int x_13), (0, .ref h0), (2, .long ((qh_kw bf k).2.1)), (4, .int (nI k))]) hx hb dX6_init_81 hl (k := 1) rfl (by rw [ex_13]; rfl) (by decide) rfl (fun ls hl => ?_)
      refine lv_lconst (v := 0) hx hb dX6_init_84 (by decide) ?_
      refine lv_lstore_n (lv' := [(2, .long 0), (1, .int x_13), (0, .ref h0), (4, .int (nI k))]) hx hb dX6_init_85 rfl hl (by decide) rfl (fun ls hl => ?_)
      refine lv_goto (tgt := 110) hx hb dX6_init_86 (by decide) ?_
      obtain ⟨x_14, ex_14⟩ : ∃ y : Int32, y = (nI k) + 1 := ⟨_, rfl⟩
      refine lv_iinc (v := x_14) (lv' := [(4, .int x_14), (2, .long 0), (1, .int x_13), (0, .ref h0)]) hx hb dX6_init_110 hl (k := 3) rfl (by rw [ex_14]; rfl) (by decide) rfl (fun ls hl => ?_)
      refine lv_goto (tgt := 46) hx hb dX6_init_113 (by decide) ?_
      refine ih _ _ _ _ (by omega) ⟨(k + 1), (by omega), rfl, ?_, ?_, hS, ?_⟩
      · have hw9 : ([(h0, .inr (11, [.ref q_1, .ref q_2, .ref q_3, .ref q_4, .int 0, .int 0, .null, .null, .int 0, .int 0, .int 0])), (q_1, .inl (cJ, 40, .inr (.inl (vp_updL ((qh_kw bf k).2.2) (nI (qh_kw bf k).1).toNatClampNeg ((qh_kw bf k).2.1))))), (q_2, .inl (cI, 401, .inl (fun _ => 0))), (q_3, .inl (cI, 401, .inl (fun _ => 0))), (q_4, .inl (cJ, 1203, .inr (.inl (fun _ => 0))))] : va_W) = [(h0, .inr (11, [.ref q_1, .ref q_2, .ref q_3, .ref q_4, .int 0, .int 0, .null, .null, .int 0, .int 0, .int 0])), (q_1, .inl (cJ, 40, .inr (.inl ((qh_kw bf ((k + 1))).2.2)))), (q_2, .inl (cI, 401, .inl (fun _ => 0))), (q_3, .inl (cI, 401, .inl (fun _ => 0))), (q_4, .inl (cJ, 1203, .inr (.inl (fun _ => 0))))] := by rw [qh_kw_sp (by have h9 := c_9; rw [nI_clamp (show k < 2 ^ 31 by omega)] at h9; exact h9), nI_clamp (show (qh_kw bf k).1 < 2 ^ 31 by have h9 := hkw k hlt; omega)]
        rw [← hw9]; exact hP
      · have hw9 : ([(h0, .inr (11, [.ref q_1, .ref q_2, .ref q_3, .ref q_4, .int 0, .int 0, .null, .null, .int 0, .int 0, .int 0])), (q_1, .inl (cJ, 40, .inr (.inl (vp_updL ((qh_kw bf k).2.2) (nI (qh_kw bf k).1).toNatClampNeg ((qh_kw bf k).2.1))))), (q_2, .inl (cI, 401, .inl (fun _ => 0))), (q_3, .inl (cI, 401, .inl (fun _ => 0))), (q_4, .inl (cJ, 1203, .inr (.inl (fun _ => 0))))] : va_W) = [(h0, .inr (11, [.ref q_1, .ref q_2, .ref q_3, .ref q_4, .int 0, .int 0, .null, .null, .int 0, .int 0, .int 0])), (q_1, .inl (cJ, 40, .inr (.inl ((qh_kw bf ((k + 1))).2.2)))), (q_2, .inl (cI, 401, .inl (fun _ => 0))), (q_3, .inl (cI, 401, .inl (fun _ => 0))), (q_4, .inl (cJ, 1203, .inr (.inl (fun _ => 0))))] := by rw [qh_kw_sp (by have h9 := c_9; rw [nI_clamp (show k < 2 ^ 31 by omega)] at h9; exact h9), nI_clamp (show (qh_kw bf k).1 < 2 ^ 31 by have h9 := hkw k hlt; omega)]
        rw [← hw9]; exact hD
      · have hl := lv_sub hl [3, 2, 1, 0] rfl
        have hw9 : ([(0, .ref h0), (1, .int x_13), (2, .long 0), (4, .int x_14)] : List (Nat × Value)) = [(0, .ref h0), (1, .int (nI (qh_kw bf ((k + 1))).1)), (2, .long ((qh_kw bf ((k + 1))).2.1)), (4, .int (nI ((k + 1))))] := by rw [qh_kw_sp (by have h9 := c_9; rw [nI_clamp (show k < 2 ^ 31 by omega)] at h9; exact h9), ex_13, ex_14, nI_1, nI_1]
        rw [← hw9]; exact hl
