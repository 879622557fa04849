def yX21_init : MethodName := ⟨RX21, "<init>", "()V"⟩
def wsX21_init_r1 : List Cond := [Cond.methodLink RX21 1 objectInit, Cond.instanceMethod objectInit, Cond.code objectInit ⟨#[0xb1]⟩ 1 none, Cond.arrayClass .int, Cond.fieldLink RX21 7 "QueryHallModel" "textSizes" "[I", Cond.arrayClass .byte, Cond.fieldLink RX21 13 "QueryHallModel" "texts" "[B", Cond.fieldLink RX21 17 "QueryHallModel" "outcomes" "[I", Cond.fieldLink RX21 20 "QueryHallModel" "whyKind" "[I", Cond.fieldLink RX21 23 "QueryHallModel" "whyPlace" "[I", Cond.fieldLink RX21 26 "QueryHallModel" "answerRows" "[I", Cond.fieldLink RX21 29 "QueryHallModel" "answerColumns" "[I", Cond.classLink RX21 32 "[[I", Cond.fieldLink RX21 34 "QueryHallModel" "answerKinds" "[[I", Cond.classLink RX21 37 "[[J", Cond.arrayClass .long, Cond.fieldLink RX21 39 "QueryHallModel" "answerHigh" "[[J", Cond.fieldLink RX21 42 "QueryHallModel" "answerLow" "[[J", Cond.fieldLink RX21 45 "QueryHallModel" "planSteps" "[I", Cond.fieldLink RX21 48 "QueryHallModel" "plans" "[[J", Cond.classLink RX21 51 RX20, Cond.fieldLink RX21 53 "QueryHallModel" "statements" "[LQueryHallModel$Statement;", Cond.classLink RX21 57 RX16, Cond.fieldLink RX21 59 "QueryHallModel" "waits" "[LQueryHallModel$Lock;"]
def wsX21_init_r2 : List Cond := [Cond.fieldLink RX21 63 "QueryHallModel" "transactions" "[I", Cond.arrayClass .boolean, Cond.fieldLink RX21 66 "QueryHallModel" "begun" "[Z", Cond.fieldLink RX21 70 "QueryHallModel" "begins" "[I", Cond.fieldLink RX21 73 "QueryHallModel" "nextTransaction" "I", Cond.fieldLink RX21 77 "QueryHallModel" "tableNames" "[J", Cond.fieldLink RX21 81 "QueryHallModel" "columnCounts" "[I", Cond.fieldLink RX21 84 "QueryHallModel" "columnNames" "[J", Cond.fieldLink RX21 87 "QueryHallModel" "columnTypes" "[I", Cond.fieldLink RX21 90 "QueryHallModel" "mustBe" "[Z", Cond.fieldLink RX21 93 "QueryHallModel" "rowCounts" "[I", Cond.fieldLink RX21 96 "QueryHallModel" "kinds" "[[I", Cond.fieldLink RX21 99 "QueryHallModel" "highs" "[[J", Cond.fieldLink RX21 102 "QueryHallModel" "lows" "[[J", Cond.fieldLink RX21 105 "QueryHallModel" "indexNames" "[J", Cond.fieldLink RX21 108 "QueryHallModel" "indexTables" "[I", Cond.fieldLink RX21 111 "QueryHallModel" "indexColumns" "[I", Cond.fieldLink RX21 114 "QueryHallModel" "first" "I", Cond.fieldLink RX21 117 "QueryHallModel" "recordKinds" "[I", Cond.fieldLink RX21 120 "QueryHallModel" "recordTransactions" "[I", Cond.fieldLink RX21 123 "QueryHallModel" "recordTables" "[I", Cond.fieldLink RX21 126 "QueryHallModel" "recordUndoes" "[I", Cond.fieldLink RX21 129 "QueryHallModel" "isUndone" "[Z", Cond.constant RX21 132 (48012)]
def wsX21_init_r3 : List Cond := [Cond.fieldLink RX21 133 "QueryHallModel" "recordValues" "[I", Cond.fieldLink RX21 136 "QueryHallModel" "recordHigh" "[J", Cond.fieldLink RX21 139 "QueryHallModel" "recordLow" "[J", Cond.fieldLink RX21 142 "QueryHallModel" "isUp" "Z", Cond.classLink RX21 146 RJx4a65c, Cond.instantiable RJx4a65c 3, Cond.initialized RJx4a65c, Cond.fieldLink RX21 149 "QueryHallModel" "locks" "Ljava/util/ArrayList;", Cond.fieldLink RX21 153 "QueryHallModel" "going" "[I", Cond.fieldLink RX21 156 "QueryHallModel" "keywords" "[J", Cond.fieldLink RX21 159 "QueryHallModel" "tokenKinds" "[I", Cond.fieldLink RX21 162 "QueryHallModel" "tokenPlaces" "[I", Cond.fieldLink RX21 165 "QueryHallModel" "tokenValues" "[J", Cond.fieldLink RX21 168 "QueryHallModel" "tokenLow" "[J", Cond.fieldLink RX21 171 "QueryHallModel" "current" "[[I", Cond.fieldLink RX21 174 "QueryHallModel" "passed" "[[I", Cond.fieldLink RX21 177 "QueryHallModel" "passedSize" "[I", Cond.fieldLink RX21 180 "QueryHallModel" "unitOf" "[[I", Cond.fieldLink RX21 183 "QueryHallModel" "unitFirst" "[[I", Cond.fieldLink RX21 186 "QueryHallModel" "unit" "[I", Cond.fieldLink RX21 189 "QueryHallModel" "keyKinds" "[I", Cond.fieldLink RX21 192 "QueryHallModel" "keyHigh" "[J", Cond.fieldLink RX21 195 "QueryHallModel" "keyLow" "[J", Cond.fieldLink RX21 198 "QueryHallModel" "sorted" "[I"]
def wsX21_init_r4 : List Cond := [Cond.fieldLink RX21 201 "QueryHallModel" "newKinds" "[I", Cond.fieldLink RX21 204 "QueryHallModel" "newHigh" "[J", Cond.fieldLink RX21 207 "QueryHallModel" "newLow" "[J", Cond.fieldLink RX21 210 "QueryHallModel" "marked" "[Z", Cond.fieldLink RX21 213 "QueryHallModel" "oneKind" "[I", Cond.fieldLink RX21 216 "QueryHallModel" "oneHigh" "[J", Cond.fieldLink RX21 219 "QueryHallModel" "oneLow" "[J", Cond.fieldLink RX21 222 "QueryHallModel" "unitAt" "[I", Cond.fieldLink RX21 225 "QueryHallModel" "listKinds" "[I", Cond.fieldLink RX21 228 "QueryHallModel" "listHigh" "[J", Cond.fieldLink RX21 231 "QueryHallModel" "listLow" "[J", Cond.fieldLink RX21 234 "QueryHallModel" "planAtHand" "[J", Cond.fieldLink RX21 237 "QueryHallModel" "ofItem" "[I", Cond.constantLong RX21 252 (37), Cond.methodLink RX21 148 yJx4a65c_init_da8c8, Cond.instanceMethod yJx4a65c_init_da8c8, Cond.code yJx4a65c_init_da8c8 cJx4a65c_init_da8c8 1 none, Cond.fieldLink RJx4a65c 39 "java/util/ArrayList" "DEFAULTCAPACITY_EMPTY_ELEMENTDATA" "[Ljava/lang/Object;", Cond.fieldLink RJx4a65c 9 "java/util/ArrayList" "elementData" "[Ljava/lang/Object;", Cond.methodLink RJx4a65c 1 yJxc12de_init_da8c8, Cond.instanceMethod yJxc12de_init_da8c8, Cond.initialized RJxc12de, Cond.code yJxc12de_init_da8c8 cJxc12de_init_da8c8 1 none, Cond.fieldLink RJxc12de 7 "java/util/AbstractList" "modCount" "I"]
def wsX21_init_r5 : List Cond := [Cond.methodLink RJxc12de 1 yJxa1e45_init_da8c8, Cond.instanceMethod yJxa1e45_init_da8c8, Cond.initialized RJxa1e45, Cond.code yJxa1e45_init_da8c8 cJxa1e45_init_da8c8 1 none, Cond.methodLink RJxa1e45 1 objectInit, Cond.methodLink RX21 242 yJ0_length_8abf5, Cond.instanceMethod yJ0_length_8abf5, Cond.selects RJ0 yJ0_length_8abf5 yJ0_length_8abf5, Cond.initialized RJ0, Cond.code yJ0_length_8abf5 cJ0_length_8abf5 1 (some .int), Cond.fieldLink RJ0 9 "java/lang/String" "value" "[B", Cond.methodLink RJ0 335 yJ0_coder_7d493, Cond.instanceMethod yJ0_coder_7d493, Cond.selects RJ0 yJ0_coder_7d493 yJ0_coder_7d493, Cond.code yJ0_coder_7d493 cJ0_coder_7d493 1 (some .byte), Cond.fieldLink RJ0 38 "java/lang/String" "COMPACT_STRINGS" "Z", Cond.fieldLink RJ0 15 "java/lang/String" "coder" "B", Cond.methodLink RX21 248 yJ0_charAt_5068e, Cond.instanceMethod yJ0_charAt_5068e, Cond.selects RJ0 yJ0_charAt_5068e yJ0_charAt_5068e, Cond.code yJ0_charAt_5068e cJ0_charAt_5068e 2 (some .char), Cond.methodLink RJ0 492 yJ0_isLatin1_aae02, Cond.instanceMethod yJ0_isLatin1_aae02, Cond.selects RJ0 yJ0_isLatin1_aae02 yJ0_isLatin1_aae02]
def wsX21_init_r6 : List Cond := [Cond.code yJ0_isLatin1_aae02 cJ0_isLatin1_aae02 1 (some .boolean), Cond.methodLink RJ0 495 yJ1_charAt_3b067, Cond.static yJ1_charAt_3b067, Cond.initialized RJ1, Cond.code yJ1_charAt_3b067 cJ1_charAt_3b067 2 (some .char), Cond.methodLink RJ1 9 yJ0_checkIndex_df160, Cond.static yJ0_checkIndex_df160, Cond.code yJ0_checkIndex_df160 cJ0_checkIndex_df160 2 none, Cond.fieldLink RJ0 1053 "jdk/internal/util/Preconditions" "SIOOBE_FORMATTER" "Ljava/util/function/BiFunction;", Cond.methodLink RJ0 1059 yJ3_checkIndex_8e157, Cond.static yJ3_checkIndex_8e157, Cond.initialized RJ3, Cond.code yJ3_checkIndex_8e157 cJ3_checkIndex_8e157 3 (some .int), Cond.methodLink RJ0 498 yJ2_charAt_3b067, Cond.static yJ2_charAt_3b067, Cond.initialized RJ2, Cond.code yJ2_charAt_3b067 cJ2_charAt_3b067 2 (some .char), Cond.methodLink RJ2 67 yJ2_checkIndex_2214a, Cond.static yJ2_checkIndex_2214a, Cond.code yJ2_checkIndex_2214a cJ2_checkIndex_2214a 2 none, Cond.methodLink RJ2 48 yJ2_length_9d52b, Cond.static yJ2_length_9d52b, Cond.code yJ2_length_9d52b cJ2_length_9d52b 1 (some .int), Cond.methodLink RJ2 414 yJ0_checkIndex_df160]
def wsX21_init_r7 : List Cond := [Cond.methodLink RJ2 71 yJ2_getChar_3b067, Cond.static yJ2_getChar_3b067, Cond.code yJ2_getChar_3b067 cJ2_getChar_3b067 2 (some .char), Cond.fieldLink RJ2 44 "java/lang/StringUTF16" "$assertionsDisabled" "Z", Cond.fieldLink RJ2 59 "java/lang/StringUTF16" "HI_BYTE_SHIFT" "I", Cond.fieldLink RJ2 63 "java/lang/StringUTF16" "LO_BYTE_SHIFT" "I", Cond.methodLink RX21 254 yX21_letterCode, Cond.static yX21_letterCode, Cond.initialized RX21, Cond.code yX21_letterCode cX21_letterCode 1 (some .long)]
def wsX21_init : List Cond := .code yX21_init cX21_init 7 none :: ((wsX21_init_r1 ++ (wsX21_init_r2 ++ (wsX21_init_r3 ++ (wsX21_init_r4 ++ (wsX21_init_r5 ++ (wsX21_init_r6 ++ wsX21_init_r7)))))) ++ wsX210 ++ wsJx4a65c0 ++ wsJ00 ++ (vx_atM "java/lang/ArrayIndexOutOfBoundsException" ["java/lang/IndexOutOfBoundsException", "java/lang/RuntimeException", "java/lang/Exception"]).filter goodWord)

theorem qh_row6 (r : Nat → Nat) : (fun i => if i < 6 then some (r i) else none) = fun i => [r 0, r 1, r 2, r 3, r 4, r 5][i]? := funext fun i => match i with
  | 0 => rfl
  | 1 => rfl
  | 2 => rfl
  | 3 => rfl
  | 4 => rfl
  | 5 => rfl
  | n + 6 => by rw [if_neg (by omega)]; simp
def qh_phi (x n k : Nat) : Nat := if k = 0 then 0 else if k - 1 < x then n + k else k - x
theorem qh_phi_at {o : Nat × va_E} {X r : va_W} {k : Nat} {q : Nat × va_E} (h : (o :: (X ++ r))[k]? = some q) : (o :: (r ++ X))[qh_phi X.length r.length k]? = some q := by
  unfold qh_phi
  cases k with
  | zero => exact h
  | succ j =>
    rw [List.getElem?_cons_succ] at h
    rw [if_neg (Nat.succ_ne_zero j)]
    by_cases hj : j < X.length
    · rw [if_pos (by omega : j + 1 - 1 < X.length)]
      rw [List.getElem?_append_left hj] at h
      rw [show r.length + (j + 1) = (r.length + j) + 1 by omega, List.getElem?_cons_succ, List.getElem?_append_right (by omega), show r.length + j - r.length = j by omega]
      exact h
    · rw [if_neg (by omega)]
      rw [List.getElem?_append_right (by omega)] at h
      have hl := (List.getElem?_eq_some_iff.mp h).1
      rw [show j + 1 - X.length = (j - X.length) + 1 by omega, List.getElem?_cons_succ, List.getElem?_append_left hl]
      exact h
theorem qh_frontP {D : va_G} {cl : List vw_C} {H : Heap} {o : Nat × va_E} {X r : va_W} (h : va_P D cl (o :: (r ++ X)) H) : va_P D cl (o :: (X ++ r)) H := fun k q hk => h _ q (qh_phi_at hk)
theorem qh_frontD {A : Nat → Prop} {o : Nat × va_E} {X r : va_W} (h : va_D A (o :: (r ++ X))) : va_D A (o :: (X ++ r)) := by
  refine ⟨fun i j p q hi hj hpq => ?_, fun k q hk => h.2 _ q (qh_phi_at hk)⟩
  have e := h.1 _ _ p q (qh_phi_at hi) (qh_phi_at hj) hpq
  have li := (List.getElem?_eq_some_iff.mp hi).1
  have lj := (List.getElem?_eq_some_iff.mp hj).1
  simp only [List.length_cons, List.length_append] at li lj
  unfold qh_phi at e
  by_cases i0 : i = 0
  · by_cases j0 : j = 0
    · omega
    · rw [if_pos i0, if_neg j0] at e
      by_cases jx : j - 1 < X.length
      · rw [if_pos jx] at e; omega
      · rw [if_neg jx] at e; omega
  · rw [if_neg i0] at e
    by_cases j0 : j = 0
    · rw [if_pos j0] at e
      by_cases ix : i - 1 < X.length
      · rw [if_pos ix] at e; omega
      · rw [if_neg ix] at e; omega
    · rw [if_neg j0] at e
      by_cases ix : i - 1 < X.length
      · rw [if_pos ix] at e
        by_cases jx : j - 1 < X.length
        · rw [if_pos jx] at e; omega
        · rw [if_neg jx] at e; omega
      · rw [if_neg ix] at e
        by_cases jx : j - 1 < X.length
        · rw [if_pos jx] at e; omega
        · rw [if_neg jx] at e; omega
theorem qh_in21 : ∀ w ∈ u_ws RX21 TX21 95, w ∈ wsX21_init := by decide +kernel
set_option maxHeartbeats 40000000 in
set_option maxRecDepth 100000 in
/-- the reference: QueryHallModel(), from 4 to 131 -/
theorem c_X21_init_4 {p : Program} {l : Launch} {e : Env} {s : State} {m : MethodId} {args : Array Value} {below : List Frame} {meth : Method} {c : Code} {H : Heap} {locs : List Loc} {Q : State → Prop} {A : Nat → Prop} {ls : Array Slot} (dC : Nat → ClassId) (dI : Nat → Nat → Nat) (cI cJ cB cZ cJJ cII cSt cLk : ClassId) (h0 ed ks vs n : Nat) (bf : Nat → Int32) (fs_0 : List Value) (hlfs_0 : fs_0.length = 95) (r0 : va_W) (hx : p.tables.exec = Jvm.exec) (hb : c.code = cX21_init) (hml : c.maxLocals = 7) (hts : ∀ w ∈ wsX21_init, w.before args s = true) (hown : s.vm.findClass RX21 = some m.cls) (hin : meth.name = "<init>") (hK : va_K (dC, dI) vwCl [(cI, .int), (cJ, .long), (cB, .byte), (cZ, .boolean), (cJJ, .array .long), (cII, .array .int), (cSt, .object RX20), (cLk, .object RX16)] s) (hA : ∀ q : Nat, s.heap.size ≤ q → A q) (hE0 : va_Z "java/util/ArrayList" "DEFAULTCAPACITY_EMPTY_ELEMENTDATA" "[Ljava/lang/Object;" (.ref ed) A s s.heap) (hE1 : va_AOA .long s) (hE2 : va_AOA .int s) (hE3 : va_AO RX20 s) (hE4 : va_AO RX16 s) (hE5 : vk_R RX21 240 "create table index on insert into values update set where delete from begin commit rollback number truth text not null select distinct left join group by having order desc or and is in true false count exists sum min max " ks s) (hE6 : va_Z "java/lang/String" "COMPACT_STRINGS" "Z" (.int 1) A s s.heap) (hE7 : va_OF "java/lang/String" "coder" "B" (.int 0) ks A s s.heap) (hE8 : va_OF "java/lang/String" "value" "[B" (.ref vs) ks A s s.heap) (hE9 : va_O "java/lang/String" ks A s s.heap) (hE10 : va_T .byte vs n (fun j => .int (bf j)) A s s.heap) (hE11 : va_Zq "jdk/internal/util/Preconditions" "SIOOBE_FORMATTER" "Ljava/util/function/BiFunction;" A s s.heap) (hl : lv_has ls 7 [(0, .ref h0)]) (hP : va_P (dC, dI) vwCl ((h0, .inr (26, fs_0)) :: r0 : va_W) H) (hD : va_D A ((h0, .inr (26, fs_0)) :: r0 : va_W)) (hS : va_S A s.heap H locs) (kk : ∀ (q_22 q_22_0 q_22_1 q_22_2 q_22_3 q_19 q_16 q_13 q_10 q_7 q_4 q_1 : Nat) (H : Heap) (locs : List Loc), va_P (dC, dI) vwCl ((h0, .inr (26, (((((((fs_0.set 1 (.ref q_1)).set 2 (.ref q_4)).set 3 (.ref q_7)).set 4 (.ref q_10)).set 5 (.ref q_13)).set 6 (.ref q_16)).set 7 (.ref q_19)).set 8 (.ref q_22))) :: (q_22, .inl (cII, 4, .inr (.inr (.inr (.inr (fun i => [q_22_0, q_22_1, q_22_2, q_22_3][i]?)))))) :: (q_22_0, .inl (cI, 3618, .inl (fun _ => 0))) :: (q_22_1, .inl (cI, 3618, .inl (fun _ => 0))) :: (q_22_2, .inl (cI, 3618, .inl (fun _ => 0))) :: (q_22_3, .inl (cI, 3618, .inl (fun _ => 0))) :: (q_19, .inl (cI, 4, .inl (fun _ => 0))) :: (q_16, .inl (cI, 4, .inl (upd (upd (upd (upd (fun _ => 0) 0 (-1)) 1 (-1)) 2 (-1)) 3 (-1)))) :: (q_13, .inl (cI, 4, .inl (upd (upd (upd (upd (fun _ => 0) 0 (-1)) 1 (-1)) 2 (-1)) 3 (-1)))) :: (q_10, .inl (cI, 4, .inl (upd (upd (upd (upd (fun _ => 0) 0 (-1)) 1 (-1)) 2 (-1)) 3 (-1)))) :: (q_7, .inl (cI, 4, .inl (upd (upd (upd (upd (fun _ => 0) 0 (-1)) 1 (-1)) 2 (-1)) 3 (-1)))) :: (q_4, .inl (cB, 1600, .inl (fun _ => 0))) :: (q_1, .inl (cI, 4, .inl (fun _ => 0))) :: r0 : va_W) H → va_D A ((h0, .inr (26, (((((((fs_0.set 1 (.ref q_1)).set 2 (.ref q_4)).set 3 (.ref q_7)).set 4 (.ref q_10)).set 5 (.ref q_13)).set 6 (.ref q_16)).set 7 (.ref q_19)).set 8 (.ref q_22))) :: (q_22, .inl (cII, 4, .inr (.inr (.inr (.inr (fun i => [q_22_0, q_22_1, q_22_2, q_22_3][i]?)))))) :: (q_22_0, .inl (cI, 3618, .inl (fun _ => 0))) :: (q_22_1, .inl (cI, 3618, .inl (fun _ => 0))) :: (q_22_2, .inl (cI, 3618, .inl (fun _ => 0))) :: (q_22_3, .inl (cI, 3618, .inl (fun _ => 0))) :: (q_19, .inl (cI, 4, .inl (fun _ => 0))) :: (q_16, .inl (cI, 4, .inl (upd (upd (upd (upd (fun _ => 0) 0 (-1)) 1 (-1)) 2 (-1)) 3 (-1)))) :: (q_13, .inl (cI, 4, .inl (upd (upd (upd (upd (fun _ => 0) 0 (-1)) 1 (-1)) 2 (-1)) 3 (-1)))) :: (q_10, .inl (cI, 4, .inl (upd (upd (upd (upd (fun _ => 0) 0 (-1)) 1 (-1)) 2 (-1)) 3 (-1)))) :: (q_7, .inl (cI, 4, .inl (upd (upd (upd (upd (fun _ => 0) 0 (-1)) 1 (-1)) 2 (-1)) 3 (-1)))) :: (q_4, .inl (cB, 1600, .inl (fun _ => 0))) :: (q_1, .inl (cI, 4, .inl (fun _ => 0))) :: r0 : va_W) → va_S A s.heap H locs → W p l e (headSpec wsX21_init { frames := 8, cells := 113, slots := 306930, locals := 300 }).room s m args below meth c H locs 12 16100 Q (F0 m 131 ls [])) : W p l e (headSpec wsX21_init { frames := 8, cells := 113, slots := 306930, locals := 300 }).room s m args below meth c H locs 0 0 Q (F0 m 4 ls []) := by
  refine lv_aload_n hx hb dX21_init_4 rfl (lv_at hl 0 rfl) ?_
  refine lv_iconst (v := 4) hx hb dX21_init_5 (by decide) ?_
  refine qh_newa (atype := .int) (ty := .int) (n := 4) (N' := 4) (a0 := (4, .inl (fun _ => 0))) hx hb (hts (.arrayClass .int) (by decide +kernel)) rfl hK hP hD hS hA 0 rfl (qh_ai .int 4 rfl) (by decide) (by decide) (by decide) (Nat.le_of_ble_eq_true rfl) (Nat.le_of_ble_eq_true rfl) dX21_init_6 (fun q_1 H hP hD hS => ?_)
  have hP := qh_frontP (o := (h0, .inr (26, fs_0))) (r := r0) (X := [(q_1, .inl (cI, 4, .inl (fun _ => 0)))]) hP
  have hD := qh_frontD (o := (h0, .inr (26, fs_0))) (r := r0) (X := [(q_1, .inl (cI, 4, .inl (fun _ => 0)))]) hD
  have hP : va_P (dC, dI) vwCl ((h0, .inr (26, fs_0)) :: (q_1, .inl (cI, 4, .inl (fun _ => 0))) :: r0 : va_W) H := hP
  have hD : va_D A ((h0, .inr (26, fs_0)) :: (q_1, .inl (cI, 4, .inl (fun _ => 0))) :: r0 : va_W) := hD
  refine va_putF (D := (dC, dI)) (fs := fs_0) (ci := 26) (v := .ref q_1) (ty := .array .int) (C := RX21) (T := TX21) (N := 95) hx hb hts qh_in21 tyX21 tyX21_ok nmX21 hown hK hP hD hS 0 rfl rfl 1 (by decide) (hts (.fieldLink RX21 7 "QueryHallModel" "textSizes" "[I") (by decide +kernel)) (fun _ h9 => h9) rfl hin rfl (by decide +kernel) rfl rfl (by rw [hlfs_0]; decide) dX21_init_8 (fun H locs hP hD hS => ?_)
  have hP : va_P (dC, dI) vwCl ((h0, .inr (26, fs_0.set 1 (.ref q_1))) :: (q_1, .inl (cI, 4, .inl (fun _ => 0))) :: r0 : va_W) H := hP
  have hD : va_D A ((h0, .inr (26, fs_0.set 1 (.ref q_1))) :: (q_1, .inl (cI, 4, .inl (fun _ => 0))) :: r0 : va_W) := hD
  generalize hfs_2 : fs_0.set 1 (.ref q_1) = fs_2 at hP hD
  have hlfs_2 : fs_2.length = 95 := by rw [← hfs_2, List.length_set]; exact hlfs_0
  generalize hrt_3 : ((q_1, .inl (cI, 4, .inl (fun _ => 0))) :: r0 : va_W) = rt_3 at hP hD
  refine lv_aload_n hx hb dX21_init_11 rfl (lv_at hl 0 rfl) ?_
  refine lv_sipush (v := 1600) hx hb dX21_init_12 (by decide) ?_
  refine qh_newa (atype := .byte) (ty := .byte) (n := 1600) (N' := 1600) (a0 := (1600, .inl (fun _ => 0))) hx hb (hts (.arrayClass .byte) (by decide +kernel)) rfl hK hP hD hS hA 2 rfl (qh_ai .byte 1600 rfl) (by decide) (by decide) (by decide) (Nat.le_of_ble_eq_true rfl) (Nat.le_of_ble_eq_true rfl) dX21_init_15 (fun q_4 H hP hD hS => ?_)
  have hP := qh_frontP (o := (h0, .inr (26, fs_2))) (r := rt_3) (X := [(q_4, .inl (cB, 1600, .inl (fun _ => 0)))]) hP
  have hD := qh_frontD (o := (h0, .inr (26, fs_2))) (r := rt_3) (X := [(q_4, .inl (cB, 1600, .inl (fun _ => 0)))]) hD
  have hP : va_P (dC, dI) vwCl ((h0, .inr (26, fs_2)) :: (q_4, .inl (cB, 1600, .inl (fun _ => 0))) :: rt_3 : va_W) H := hP
  have hD : va_D A ((h0, .inr (26, fs_2)) :: (q_4, .inl (cB, 1600, .inl (fun _ => 0))) :: rt_3 : va_W) := hD
  refine va_putF (D := (dC, dI)) (fs := fs_2) (ci := 26) (v := .ref q_4) (ty := .array .byte) (C := RX21) (T := TX21) (N := 95) hx hb hts qh_in21 tyX21 tyX21_ok nmX21 hown hK hP hD hS 0 rfl rfl 2 (by decide) (hts (.fieldLink RX21 13 "QueryHallModel" "texts" "[B") (by decide +kernel)) (fun _ h9 => h9) rfl hin rfl (by decide +kernel) rfl rfl (by rw [hlfs_2]; decide) dX21_init_17 (fun H locs hP hD hS => ?_)
  have hP : va_P (dC, dI) vwCl ((h0, .inr (26, fs_2.set 2 (.ref q_4))) :: (q_4, .inl (cB, 1600, .inl (fun _ => 0))) :: rt_3 : va_W) H := hP
  have hD : va_D A ((h0, .inr (26, fs_2.set 2 (.ref q_4))) :: (q_4, .inl (cB, 1600, .inl (fun _ => 0))) :: rt_3 : va_W) := hD
  generalize hfs_5 : fs_2.set 2 (.ref q_4) = fs_5 at hP hD
  have hlfs_5 : fs_5.length = 95 := by rw [← hfs_5, List.length_set]; exact hlfs_2
  generalize hrt_6 : ((q_4, .inl (cB, 1600, .inl (fun _ => 0))) :: rt_3 : va_W) = rt_6 at hP hD
  refine lv_aload_n hx hb dX21_init_20 rfl (lv_at hl 0 rfl) ?_
  refine lv_iconst (v := 4) hx hb dX21_init_21 (by decide) ?_
  refine qh_newa (atype := .int) (ty := .int) (n := 4) (N' := 4) (a0 := (4, .inl (fun _ => 0))) hx hb (hts (.arrayClass .int) (by decide +kernel)) rfl hK hP hD hS hA 0 rfl (qh_ai .int 4 rfl) (by decide) (by decide) (by decide) (Nat.le_of_ble_eq_true rfl) (Nat.le_of_ble_eq_true rfl) dX21_init_22 (fun q_7 H hP hD hS => ?_)
  have hP := qh_frontP (o := (h0, .inr (26, fs_5))) (r := rt_6) (X := [(q_7, .inl (cI, 4, .inl (fun _ => 0)))]) hP
  have hD := qh_frontD (o := (h0, .inr (26, fs_5))) (r := rt_6) (X := [(q_7, .inl (cI, 4, .inl (fun _ => 0)))]) hD
  have hP : va_P (dC, dI) vwCl ((h0, .inr (26, fs_5)) :: (q_7, .inl (cI, 4, .inl (fun _ => 0))) :: rt_6 : va_W) H := hP
  have hD : va_D A ((h0, .inr (26, fs_5)) :: (q_7, .inl (cI, 4, .inl (fun _ => 0))) :: rt_6 : va_W) := hD
  refine lv_dup hx hb dX21_init_24 rfl ?_
  refine lv_iconst (v := 0) hx hb dX21_init_25 (by decide) ?_
  refine lv_iconst (v := -1) hx hb dX21_init_26 (by decide) ?_
  refine va_iast hx hb hK hP hD hS 1 0 rfl rfl (show ¬ ((0 : Int32) < 0 ∨ 4 ≤ (0 : Int32).toNatClampNeg) by decide) dX21_init_27 (fun H locs hP hD hS => ?_)
  have hP : va_P (dC, dI) vwCl ((h0, .inr (26, fs_5)) :: (q_7, .inl (cI, 4, .inl (upd (fun _ => 0) 0 (-1)))) :: rt_6 : va_W) H := hP
  have hD : va_D A ((h0, .inr (26, fs_5)) :: (q_7, .inl (cI, 4, .inl (upd (fun _ => 0) 0 (-1)))) :: rt_6 : va_W) := hD
  refine lv_dup hx hb dX21_init_28 rfl ?_
  refine lv_iconst (v := 1) hx hb dX21_init_29 (by decide) ?_
  refine lv_iconst (v := -1) hx hb dX21_init_30 (by decide) ?_
  refine va_iast hx hb hK hP hD hS 1 0 rfl rfl (show ¬ ((1 : Int32) < 0 ∨ 4 ≤ (1 : Int32).toNatClampNeg) by decide) dX21_init_31 (fun H locs hP hD hS => ?_)
  have hP : va_P (dC, dI) vwCl ((h0, .inr (26, fs_5)) :: (q_7, .inl (cI, 4, .inl (upd (upd (fun _ => 0) 0 (-1)) 1 (-1)))) :: rt_6 : va_W) H := hP
  have hD : va_D A ((h0, .inr (26, fs_5)) :: (q_7, .inl (cI, 4, .inl (upd (upd (fun _ => 0) 0 (-1)) 1 (-1)))) :: rt_6 : va_W) := hD
  refine lv_dup hx hb dX21_init_32 rfl ?_
  refine lv_iconst (v := 2) hx hb dX21_init_33 (by decide) ?_
  refine lv_iconst (v := -1) hx hb dX21_init_34 (by decide) ?_
  refine va_iast hx hb hK hP hD hS 1 0 rfl rfl (show ¬ ((2 : Int32) < 0 ∨ 4 ≤ (2 : Int32).toNatClampNeg) by decide) dX21_init_35 (fun H locs hP hD hS => ?_)
  have hP : va_P (dC, dI) vwCl ((h0, .inr (26, fs_5)) :: (q_7, .inl (cI, 4, .inl (upd (upd (upd (fun _ => 0) 0 (-1)) 1 (-1)) 2 (-1)))) :: rt_6 : va_W) H := hP
  have hD : va_D A ((h0, .inr (26, fs_5)) :: (q_7, .inl (cI, 4, .inl (upd (upd (upd (fun _ => 0) 0 (-1)) 1 (-1)) 2 (-1)))) :: rt_6 : va_W) := hD
  refine lv_dup hx hb dX21_init_36 rfl ?_
  refine lv_iconst (v := 3) hx hb dX21_init_37 (by decide) ?_
  refine lv_iconst (v := -1) hx hb dX21_init_38 (by decide) ?_
  refine va_iast hx hb hK hP hD hS 1 0 rfl rfl (show ¬ ((3 : Int32) < 0 ∨ 4 ≤ (3 : Int32).toNatClampNeg) by decide) dX21_init_39 (fun H locs hP hD hS => ?_)
  have hP : va_P (dC, dI) vwCl ((h0, .inr (26, fs_5)) :: (q_7, .inl (cI, 4, .inl (upd (upd (upd (upd (fun _ => 0) 0 (-1)) 1 (-1)) 2 (-1)) 3 (-1)))) :: rt_6 : va_W) H := hP
  have hD : va_D A ((h0, .inr (26, fs_5)) :: (q_7, .inl (cI, 4, .inl (upd (upd (upd (upd (fun _ => 0) 0 (-1)) 1 (-1)) 2 (-1)) 3 (-1)))) :: rt_6 : va_W) := hD
  refine va_putF (D := (dC, dI)) (fs := fs_5) (ci := 26) (v := .ref q_7) (ty := .array .int) (C := RX21) (T := TX21) (N := 95) hx hb hts qh_in21 tyX21 tyX21_ok nmX21 hown hK hP hD hS 0 rfl rfl 3 (by decide) (hts (.fieldLink RX21 17 "QueryHallModel" "outcomes" "[I") (by decide +kernel)) (fun _ h9 => h9) rfl hin rfl (by decide +kernel) rfl rfl (by rw [hlfs_5]; decide) dX21_init_40 (fun H locs hP hD hS => ?_)
  have hP : va_P (dC, dI) vwCl ((h0, .inr (26, fs_5.set 3 (.ref q_7))) :: (q_7, .inl (cI, 4, .inl (upd (upd (upd (upd (fun _ => 0) 0 (-1)) 1 (-1)) 2 (-1)) 3 (-1)))) :: rt_6 : va_W) H := hP
  have hD : va_D A ((h0, .inr (26, fs_5.set 3 (.ref q_7))) :: (q_7, .inl (cI, 4, .inl (upd (upd (upd (upd (fun _ => 0) 0 (-1)) 1 (-1)) 2 (-1)) 3 (-1)))) :: rt_6 : va_W) := hD
  generalize hfs_8 : fs_5.set 3 (.ref q_7) = fs_8 at hP hD
  have hlfs_8 : fs_8.length = 95 := by rw [← hfs_8, List.length_set]; exact hlfs_5
  generalize hrt_9 : ((q_7, .inl (cI, 4, .inl (upd (upd (upd (upd (fun _ => 0) 0 (-1)) 1 (-1)) 2 (-1)) 3 (-1)))) :: rt_6 : va_W) = rt_9 at hP hD
  refine lv_aload_n hx hb dX21_init_43 rfl (lv_at hl 0 rfl) ?_
  refine lv_iconst (v := 4) hx hb dX21_init_44 (by decide) ?_
  refine qh_newa (atype := .int) (ty := .int) (n := 4) (N' := 4) (a0 := (4, .inl (fun _ => 0))) hx hb (hts (.arrayClass .int) (by decide +kernel)) rfl hK hP hD hS hA 0 rfl (qh_ai .int 4 rfl) (by decide) (by decide) (by decide) (Nat.le_of_ble_eq_true rfl) (Nat.le_of_ble_eq_true rfl) dX21_init_45 (fun q_10 H hP hD hS => ?_)
  have hP := qh_frontP (o := (h0, .inr (26, fs_8))) (r := rt_9) (X := [(q_10, .inl (cI, 4, .inl (fun _ => 0)))]) hP
  have hD := qh_frontD (o := (h0, .inr (26, fs_8))) (r := rt_9) (X := [(q_10, .inl (cI, 4, .inl (fun _ => 0)))]) hD
  have hP : va_P (dC, dI) vwCl ((h0, .inr (26, fs_8)) :: (q_10, .inl (cI, 4, .inl (fun _ => 0))) :: rt_9 : va_W) H := hP
  have hD : va_D A ((h0, .inr (26, fs_8)) :: (q_10, .inl (cI, 4, .inl (fun _ => 0))) :: rt_9 : va_W) := hD
  refine lv_dup hx hb dX21_init_47 rfl ?_
  refine lv_iconst (v := 0) hx hb dX21_init_48 (by decide) ?_
  refine lv_iconst (v := -1) hx hb dX21_init_49 (by decide) ?_
  refine va_iast hx hb hK hP hD hS 1 0 rfl rfl (show ¬ ((0 : Int32) < 0 ∨ 4 ≤ (0 : Int32).toNatClampNeg) by decide) dX21_init_50 (fun H locs hP hD hS => ?_)
  have hP : va_P (dC, dI) vwCl ((h0, .inr (26, fs_8)) :: (q_10, .inl (cI, 4, .inl (upd (fun _ => 0) 0 (-1)))) :: rt_9 : va_W) H := hP
  have hD : va_D A ((h0, .inr (26, fs_8)) :: (q_10, .inl (cI, 4, .inl (upd (fun _ => 0) 0 (-1)))) :: rt_9 : va_W) := hD
  refine lv_dup hx hb dX21_init_51 rfl ?_
  refine lv_iconst (v := 1) hx hb dX21_init_52 (by decide) ?_
  refine lv_iconst (v := -1) hx hb dX21_init_53 (by decide) ?_
  refine va_iast hx hb hK hP hD hS 1 0 rfl rfl (show ¬ ((1 : Int32) < 0 ∨ 4 ≤ (1 : Int32).toNatClampNeg) by decide) dX21_init_54 (fun H locs hP hD hS => ?_)
  have hP : va_P (dC, dI) vwCl ((h0, .inr (26, fs_8)) :: (q_10, .inl (cI, 4, .inl (upd (upd (fun _ => 0) 0 (-1)) 1 (-1)))) :: rt_9 : va_W) H := hP
  have hD : va_D A ((h0, .inr (26, fs_8)) :: (q_10, .inl (cI, 4, .inl (upd (upd (fun _ => 0) 0 (-1)) 1 (-1)))) :: rt_9 : va_W) := hD
  refine lv_dup hx hb dX21_init_55 rfl ?_
  refine lv_iconst (v := 2) hx hb dX21_init_56 (by decide) ?_
  refine lv_iconst (v := -1) hx hb dX21_init_57 (by decide) ?_
  refine va_iast hx hb hK hP hD hS 1 0 rfl rfl (show ¬ ((2 : Int32) < 0 ∨ 4 ≤ (2 : Int32).toNatClampNeg) by decide) dX21_init_58 (fun H locs hP hD hS => ?_)
  have hP : va_P (dC, dI) vwCl ((h0, .inr (26, fs_8)) :: (q_10, .inl (cI, 4, .inl (upd (upd (upd (fun _ => 0) 0 (-1)) 1 (-1)) 2 (-1)))) :: rt_9 : va_W) H := hP
  have hD : va_D A ((h0, .inr (26, fs_8)) :: (q_10, .inl (cI, 4, .inl (upd (upd (upd (fun _ => 0) 0 (-1)) 1 (-1)) 2 (-1)))) :: rt_9 : va_W) := hD
  refine lv_dup hx hb dX21_init_59 rfl ?_
  refine lv_iconst (v := 3) hx hb dX21_init_60 (by decide) ?_
  refine lv_iconst (v := -1) hx hb dX21_init_61 (by decide) ?_
  refine va_iast hx hb hK hP hD hS 1 0 rfl rfl (show ¬ ((3 : Int32) < 0 ∨ 4 ≤ (3 : Int32).toNatClampNeg) by decide) dX21_init_62 (fun H locs hP hD hS => ?_)
  have hP : va_P (dC, dI) vwCl ((h0, .inr (26, fs_8)) :: (q_10, .inl (cI, 4, .inl (upd (upd (upd (upd (fun _ => 0) 0 (-1)) 1 (-1)) 2 (-1)) 3 (-1)))) :: rt_9 : va_W) H := hP
  have hD : va_D A ((h0, .inr (26, fs_8)) :: (q_10, .inl (cI, 4, .inl (upd (upd (upd (upd (fun _ => 0) 0 (-1)) 1 (-1)) 2 (-1)) 3 (-1)))) :: rt_9 : va_W) := hD
  refine va_putF (D := (dC, dI)) (fs := fs_8) (ci := 26) (v := .ref q_10) (ty := .array .int) (C := RX21) (T := TX21) (N := 95) hx hb hts qh_in21 tyX21 tyX21_ok nmX21 hown hK hP hD hS 0 rfl rfl 4 (by decide) (hts (.fieldLink RX21 20 "QueryHallModel" "whyKind" "[I") (by decide +kernel)) (fun _ h9 => h9) rfl hin rfl (by decide +kernel) rfl rfl (by rw [hlfs_8]; decide) dX21_init_63 (fun H locs hP hD hS => ?_)
  have hP : va_P (dC, dI) vwCl ((h0, .inr (26, fs_8.set 4 (.ref q_10))) :: (q_10, .inl (cI, 4, .inl (upd (upd (upd (upd (fun _ => 0) 0 (-1)) 1 (-1)) 2 (-1)) 3 (-1)))) :: rt_9 : va_W) H := hP
  have hD : va_D A ((h0, .inr (26, fs_8.set 4 (.ref q_10))) :: (q_10, .inl (cI, 4, .inl (upd (upd (upd (upd (fun _ => 0) 0 (-1)) 1 (-1)) 2 (-1)) 3 (-1)))) :: rt_9 : va_W) := hD
  generalize hfs_11 : fs_8.set 4 (.ref q_10) = fs_11 at hP hD
  have hlfs_11 : fs_11.length = 95 := by rw [← hfs_11, List.length_set]; exact hlfs_8
  generalize hrt_12 : ((q_10, .inl (cI, 4, .inl (upd (upd (upd (upd (fun _ => 0) 0 (-1)) 1 (-1)) 2 (-1)) 3 (-1)))) :: rt_9 : va_W) = rt_12 at hP hD
  refine lv_aload_n hx hb dX21_init_66 rfl (lv_at hl 0 rfl) ?_
  refine lv_iconst (v := 4) hx hb dX21_init_67 (by decide) ?_
  refine qh_newa (atype := .int) (ty := .int) (n := 4) (N' := 4) (a0 := (4, .inl (fun _ => 0))) hx hb (hts (.arrayClass .int) (by decide +kernel)) rfl hK hP hD hS hA 0 rfl (qh_ai .int 4 rfl) (by decide) (by decide) (by decide) (Nat.le_of_ble_eq_true rfl) (Nat.le_of_ble_eq_true rfl) dX21_init_68 (fun q_13 H hP hD hS => ?_)
  have hP := qh_frontP (o := (h0, .inr (26, fs_11))) (r := rt_12) (X := [(q_13, .inl (cI, 4, .inl (fun _ => 0)))]) hP
  have hD := qh_frontD (o := (h0, .inr (26, fs_11))) (r := rt_12) (X := [(q_13, .inl (cI, 4, .inl (fun _ => 0)))]) hD
  have hP : va_P (dC, dI) vwCl ((h0, .inr (26, fs_11)) :: (q_13, .inl (cI, 4, .inl (fun _ => 0))) :: rt_12 : va_W) H := hP
  have hD : va_D A ((h0, .inr (26, fs_11)) :: (q_13, .inl (cI, 4, .inl (fun _ => 0))) :: rt_12 : va_W) := hD
  refine lv_dup hx hb dX21_init_70 rfl ?_
  refine lv_iconst (v := 0) hx hb dX21_init_71 (by decide) ?_
  refine lv_iconst (v := -1) hx hb dX21_init_72 (by decide) ?_
  refine va_iast hx hb hK hP hD hS 1 0 rfl rfl (show ¬ ((0 : Int32) < 0 ∨ 4 ≤ (0 : Int32).toNatClampNeg) by decide) dX21_init_73 (fun H locs hP hD hS => ?_)
  have hP : va_P (dC, dI) vwCl ((h0, .inr (26, fs_11)) :: (q_13, .inl (cI, 4, .inl (upd (fun _ => 0) 0 (-1)))) :: rt_12 : va_W) H := hP
  have hD : va_D A ((h0, .inr (26, fs_11)) :: (q_13, .inl (cI, 4, .inl (upd (fun _ => 0) 0 (-1)))) :: rt_12 : va_W) := hD
  refine lv_dup hx hb dX21_init_74 rfl ?_
  refine lv_iconst (v := 1) hx hb dX21_init_75 (by decide) ?_
  refine lv_iconst (v := -1) hx hb dX21_init_76 (by decide) ?_
  refine va_iast hx hb hK hP hD hS 1 0 rfl rfl (show ¬ ((1 : Int32) < 0 ∨ 4 ≤ (1 : Int32).toNatClampNeg) by decide) dX21_init_77 (fun H locs hP hD hS => ?_)
  have hP : va_P (dC, dI) vwCl ((h0, .inr (26, fs_11)) :: (q_13, .inl (cI, 4, .inl (upd (upd (fun _ => 0) 0 (-1)) 1 (-1)))) :: rt_12 : va_W) H := hP
  have hD : va_D A ((h0, .inr (26, fs_11)) :: (q_13, .inl (cI, 4, .inl (upd (upd (fun _ => 0) 0 (-1)) 1 (-1)))) :: rt_12 : va_W) := hD
  refine lv_dup hx hb dX21_init_78 rfl ?_
  refine lv_iconst (v := 2) hx hb dX21_init_79 (by decide) ?_
  refine lv_iconst (v := -1) hx hb dX21_init_80 (by decide) ?_
  refine va_iast hx hb hK hP hD hS 1 0 rfl rfl (show ¬ ((2 : Int32) < 0 ∨ 4 ≤ (2 : Int32).toNatClampNeg) by decide) dX21_init_81 (fun H locs hP hD hS => ?_)
  have hP : va_P (dC, dI) vwCl ((h0, .inr (26, fs_11)) :: (q_13, .inl (cI, 4, .inl (upd (upd (upd (fun _ => 0) 0 (-1)) 1 (-1)) 2 (-1)))) :: rt_12 : va_W) H := hP
  have hD : va_D A ((h0, .inr (26, fs_11)) :: (q_13, .inl (cI, 4, .inl (upd (upd (upd (fun _ => 0) 0 (-1)) 1 (-1)) 2 (-1)))) :: rt_12 : va_W) := hD
  refine lv_dup hx hb dX21_init_82 rfl ?_
  refine lv_iconst (v := 3) hx hb dX21_init_83 (by decide) ?_
  refine lv_iconst (v := -1) hx hb dX21_init_84 (by decide) ?_
  refine va_iast hx hb hK hP hD hS 1 0 rfl rfl (show ¬ ((3 : Int32) < 0 ∨ 4 ≤ (3 : Int32).toNatClampNeg) by decide) dX21_init_85 (fun H locs hP hD hS => ?_)
  have hP : va_P (dC, dI) vwCl ((h0, .inr (26, fs_11)) :: (q_13, .inl (cI, 4, .inl (upd (upd (upd (upd (fun _ => 0) 0 (-1)) 1 (-1)) 2 (-1)) 3 (-1)))) :: rt_12 : va_W) H := hP
  have hD : va_D A ((h0, .inr (26, fs_11)) :: (q_13, .inl (cI, 4, .inl (upd (upd (upd (upd (fun _ => 0) 0 (-1)) 1 (-1)) 2 (-1)) 3 (-1)))) :: rt_12 : va_W) := hD
  refine va_putF (D := (dC, dI)) (fs := fs_11) (ci := 26) (v := .ref q_13) (ty := .array .int) (C := RX21) (T := TX21) (N := 95) hx hb hts qh_in21 tyX21 tyX21_ok nmX21 hown hK hP hD hS 0 rfl rfl 5 (by decide) (hts (.fieldLink RX21 23 "QueryHallModel" "whyPlace" "[I") (by decide +kernel)) (fun _ h9 => h9) rfl hin rfl (by decide +kernel) rfl rfl (by rw [hlfs_11]; decide) dX21_init_86 (fun H locs hP hD hS => ?_)
  have hP : va_P (dC, dI) vwCl ((h0, .inr (26, fs_11.set 5 (.ref q_13))) :: (q_13, .inl (cI, 4, .inl (upd (upd (upd (upd (fun _ => 0) 0 (-1)) 1 (-1)) 2 (-1)) 3 (-1)))) :: rt_12 : va_W) H := hP
  have hD : va_D A ((h0, .inr (26, fs_11.set 5 (.ref q_13))) :: (q_13, .inl (cI, 4, .inl (upd (upd (upd (upd (fun _ => 0) 0 (-1)) 1 (-1)) 2 (-1)) 3 (-1)))) :: rt_12 : va_W) := hD
  generalize hfs_14 : fs_11.set 5 (.ref q_13) = fs_14 at hP hD
  have hlfs_14 : fs_14.length = 95 := by rw [← hfs_14, List.length_set]; exact hlfs_11
  generalize hrt_15 : ((q_13, .inl (cI, 4, .inl (upd (upd (upd (upd (fun _ => 0) 0 (-1)) 1 (-1)) 2 (-1)) 3 (-1)))) :: rt_12 : va_W) = rt_15 at hP hD
  refine lv_aload_n hx hb dX21_init_89 rfl (lv_at hl 0 rfl) ?_
  refine lv_iconst (v := 4) hx hb dX21_init_90 (by decide) ?_
  refine qh_newa (atype := .int) (ty := .int) (n := 4) (N' := 4) (a0 := (4, .inl (fun _ => 0))) hx hb (hts (.arrayClass .int) (by decide +kernel)) rfl hK hP hD hS hA 0 rfl (qh_ai .int 4 rfl) (by decide) (by decide) (by decide) (Nat.le_of_ble_eq_true rfl) (Nat.le_of_ble_eq_true rfl) dX21_init_91 (fun q_16 H hP hD hS => ?_)
  have hP := qh_frontP (o := (h0, .inr (26, fs_14))) (r := rt_15) (X := [(q_16, .inl (cI, 4, .inl (fun _ => 0)))]) hP
  have hD := qh_frontD (o := (h0, .inr (26, fs_14))) (r := rt_15) (X := [(q_16, .inl (cI, 4, .inl (fun _ => 0)))]) hD
  have hP : va_P (dC, dI) vwCl ((h0, .inr (26, fs_14)) :: (q_16, .inl (cI, 4, .inl (fun _ => 0))) :: rt_15 : va_W) H := hP
  have hD : va_D A ((h0, .inr (26, fs_14)) :: (q_16, .inl (cI, 4, .inl (fun _ => 0))) :: rt_15 : va_W) := hD
  refine lv_dup hx hb dX21_init_93 rfl ?_
  refine lv_iconst (v := 0) hx hb dX21_init_94 (by decide) ?_
  refine lv_iconst (v := -1) hx hb dX21_init_95 (by decide) ?_
  refine va_iast hx hb hK hP hD hS 1 0 rfl rfl (show ¬ ((0 : Int32) < 0 ∨ 4 ≤ (0 : Int32).toNatClampNeg) by decide) dX21_init_96 (fun H locs hP hD hS => ?_)
  have hP : va_P (dC, dI) vwCl ((h0, .inr (26, fs_14)) :: (q_16, .inl (cI, 4, .inl (upd (fun _ => 0) 0 (-1)))) :: rt_15 : va_W) H := hP
  have hD : va_D A ((h0, .inr (26, fs_14)) :: (q_16, .inl (cI, 4, .inl (upd (fun _ => 0) 0 (-1)))) :: rt_15 : va_W) := hD
  refine lv_dup hx hb dX21_init_97 rfl ?_
  refine lv_iconst (v := 1) hx hb dX21_init_98 (by decide) ?_
  refine lv_iconst (v := -1) hx hb dX21_init_99 (by decide) ?_
  refine va_iast hx hb hK hP hD hS 1 0 rfl rfl (show ¬ ((1 : Int32) < 0 ∨ 4 ≤ (1 : Int32).toNatClampNeg) by decide) dX21_init_100 (fun H locs hP hD hS => ?_)
  have hP : va_P (dC, dI) vwCl ((h0, .inr (26, fs_14)) :: (q_16, .inl (cI, 4, .inl (upd (upd (fun _ => 0) 0 (-1)) 1 (-1)))) :: rt_15 : va_W) H := hP
  have hD : va_D A ((h0, .inr (26, fs_14)) :: (q_16, .inl (cI, 4, .inl (upd (upd (fun _ => 0) 0 (-1)) 1 (-1)))) :: rt_15 : va_W) := hD
  refine lv_dup hx hb dX21_init_101 rfl ?_
  refine lv_iconst (v := 2) hx hb dX21_init_102 (by decide) ?_
  refine lv_iconst (v := -1) hx hb dX21_init_103 (by decide) ?_
  refine va_iast hx hb hK hP hD hS 1 0 rfl rfl (show ¬ ((2 : Int32) < 0 ∨ 4 ≤ (2 : Int32).toNatClampNeg) by decide) dX21_init_104 (fun H locs hP hD hS => ?_)
  have hP : va_P (dC, dI) vwCl ((h0, .inr (26, fs_14)) :: (q_16, .inl (cI, 4, .inl (upd (upd (upd (fun _ => 0) 0 (-1)) 1 (-1)) 2 (-1)))) :: rt_15 : va_W) H := hP
  have hD : va_D A ((h0, .inr (26, fs_14)) :: (q_16, .inl (cI, 4, .inl (upd (upd (upd (fun _ => 0) 0 (-1)) 1 (-1)) 2 (-1)))) :: rt_15 : va_W) := hD
  refine lv_dup hx hb dX21_init_105 rfl ?_
  refine lv_iconst (v := 3) hx hb dX21_init_106 (by decide) ?_
  refine lv_iconst (v := -1) hx hb dX21_init_107 (by decide) ?_
  refine va_iast hx hb hK hP hD hS 1 0 rfl rfl (show ¬ ((3 : Int32) < 0 ∨ 4 ≤ (3 : Int32).toNatClampNeg) by decide) dX21_init_108 (fun H locs hP hD hS => ?_)
  have hP : va_P (dC, dI) vwCl ((h0, .inr (26, fs_14)) :: (q_16, .inl (cI, 4, .inl (upd (upd (upd (upd (fun _ => 0) 0 (-1)) 1 (-1)) 2 (-1)) 3 (-1)))) :: rt_15 : va_W) H := hP
  have hD : va_D A ((h0, .inr (26, fs_14)) :: (q_16, .inl (cI, 4, .inl (upd (upd (upd (upd (fun _ => 0) 0 (-1)) 1 (-1)) 2 (-1)) 3 (-1)))) :: rt_15 : va_W) := hD
  refine va_putF (D := (dC, dI)) (fs := fs_14) (ci := 26) (v := .ref q_16) (ty := .array .int) (C := RX21) (T := TX21) (N := 95) hx hb hts qh_in21 tyX21 tyX21_ok nmX21 hown hK hP hD hS 0 rfl rfl 6 (by decide) (hts (.fieldLink RX21 26 "QueryHallModel" "answerRows" "[I") (by decide +kernel)) (fun _ h9 => h9) rfl hin rfl (by decide +kernel) rfl rfl (by rw [hlfs_14]; decide) dX21_init_109 (fun H locs hP hD hS => ?_)
  have hP : va_P (dC, dI) vwCl ((h0, .inr (26, fs_14.set 6 (.ref q_16))) :: (q_16, .inl (cI, 4, .inl (upd (upd (upd (upd (fun _ => 0) 0 (-1)) 1 (-1)) 2 (-1)) 3 (-1)))) :: rt_15 : va_W) H := hP
  have hD : va_D A ((h0, .inr (26, fs_14.set 6 (.ref q_16))) :: (q_16, .inl (cI, 4, .inl (upd (upd (upd (upd (fun _ => 0) 0 (-1)) 1 (-1)) 2 (-1)) 3 (-1)))) :: rt_15 : va_W) := hD
  generalize hfs_17 : fs_14.set 6 (.ref q_16) = fs_17 at hP hD
  have hlfs_17 : fs_17.length = 95 := by rw [← hfs_17, List.length_set]; exact hlfs_14
  generalize hrt_18 : ((q_16, .inl (cI, 4, .inl (upd (upd (upd (upd (fun _ => 0) 0 (-1)) 1 (-1)) 2 (-1)) 3 (-1)))) :: rt_15 : va_W) = rt_18 at hP hD
  refine lv_aload_n hx hb dX21_init_112 rfl (lv_at hl 0 rfl) ?_
  refine lv_iconst (v := 4) hx hb dX21_init_113 (by decide) ?_
  refine qh_newa (atype := .int) (ty := .int) (n := 4) (N' := 4) (a0 := (4, .inl (fun _ => 0))) hx hb (hts (.arrayClass .int) (by decide +kernel)) rfl hK hP hD hS hA 0 rfl (qh_ai .int 4 rfl) (by decide) (by decide) (by decide) (Nat.le_of_ble_eq_true rfl) (Nat.le_of_ble_eq_true rfl) dX21_init_114 (fun q_19 H hP hD hS => ?_)
  have hP := qh_frontP (o := (h0, .inr (26, fs_17))) (r := rt_18) (X := [(q_19, .inl (cI, 4, .inl (fun _ => 0)))]) hP
  have hD := qh_frontD (o := (h0, .inr (26, fs_17))) (r := rt_18) (X := [(q_19, .inl (cI, 4, .inl (fun _ => 0)))]) hD
  have hP : va_P (dC, dI) vwCl ((h0, .inr (26, fs_17)) :: (q_19, .inl (cI, 4, .inl (fun _ => 0))) :: rt_18 : va_W) H := hP
  have hD : va_D A ((h0, .inr (26, fs_17)) :: (q_19, .inl (cI, 4, .inl (fun _ => 0))) :: rt_18 : va_W) := hD
  refine va_putF (D := (dC, dI)) (fs := fs_17) (ci := 26) (v := .ref q_19) (ty := .array .int) (C := RX21) (T := TX21) (N := 95) hx hb hts qh_in21 tyX21 tyX21_ok nmX21 hown hK hP hD hS 0 rfl rfl 7 (by decide) (hts (.fieldLink RX21 29 "QueryHallModel" "answerColumns" "[I") (by decide +kernel)) (fun _ h9 => h9) rfl hin rfl (by decide +kernel) rfl rfl (by rw [hlfs_17]; decide) dX21_init_116 (fun H locs hP hD hS => ?_)
  have hP : va_P (dC, dI) vwCl ((h0, .inr (26, fs_17.set 7 (.ref q_19))) :: (q_19, .inl (cI, 4, .inl (fun _ => 0))) :: rt_18 : va_W) H := hP
  have hD : va_D A ((h0, .inr (26, fs_17.set 7 (.ref q_19))) :: (q_19, .inl (cI, 4, .inl (fun _ => 0))) :: rt_18 : va_W) := hD
  generalize hfs_20 : fs_17.set 7 (.ref q_19) = fs_20 at hP hD
  have hlfs_20 : fs_20.length = 95 := by rw [← hfs_20, List.length_set]; exact hlfs_17
  generalize hrt_21 : ((q_19, .inl (cI, 4, .inl (fun _ => 0))) :: rt_18 : va_W) = rt_21 at hP hD
  refine lv_aload_n hx hb dX21_init_119 rfl (lv_at hl 0 rfl) ?_
  refine lv_iconst (v := 4) hx hb dX21_init_120 (by decide) ?_
  refine lv_sipush (v := 3618) hx hb dX21_init_121 (by decide) ?_
  refine qh_mna (own := RX21) (index := 32) (ty := .int) (cI := cI) (n := 4) (k := 3618) (N' := 4) (K' := 3618) (z := (3618, .inl (fun _ => 0))) hx hb hown ((show ("[" ++ (FieldType.array .int).toString) = "[[I" by decide +kernel).symm ▸ hts (.classLink RX21 32 "[[I") (by decide +kernel)) hE2 (hts (.arrayClass .int) (by decide +kernel)) ((show (FieldType.array .int).toString = "[I" by decide +kernel) ▸ va_nm_int (hK.2 0 _ rfl).2) hK hP hD hS hA 5 rfl (by decide) (by decide) (by decide) (by decide) (by decide) (by decide) (by decide) rfl rfl (Nat.le_of_ble_eq_true rfl) (Nat.le_of_ble_eq_true rfl) (fun c => by show ({ cls := c, slots := Array.replicate 3618 _, vm := .none } : Cell) = _; rw [arrV_new]; rfl) dX21_init_124 (fun q_22 r_23 H hP hD hS => ?_)
  rw [List.append_assoc] at hP hD
  have hP := qh_frontP (o := (h0, .inr (26, fs_20))) (r := rt_21) (X := [(q_22, .inl (cII, 4, .inr (.inr (.inr (.inr (fun i => if i < 4 then some (r_23 i) else none)))))), ((r_23 0), .inl (cI, 3618, .inl (fun _ => 0))), ((r_23 1), .inl (cI, 3618, .inl (fun _ => 0))), ((r_23 2), .inl (cI, 3618, .inl (fun _ => 0))), ((r_23 3), .inl (cI, 3618, .inl (fun _ => 0)))]) hP
  have hD := qh_frontD (o := (h0, .inr (26, fs_20))) (r := rt_21) (X := [(q_22, .inl (cII, 4, .inr (.inr (.inr (.inr (fun i => if i < 4 then some (r_23 i) else none)))))), ((r_23 0), .inl (cI, 3618, .inl (fun _ => 0))), ((r_23 1), .inl (cI, 3618, .inl (fun _ => 0))), ((r_23 2), .inl (cI, 3618, .inl (fun _ => 0))), ((r_23 3), .inl (cI, 3618, .inl (fun _ => 0)))]) hD
  have hP : va_P (dC, dI) vwCl ((h0, .inr (26, fs_20)) :: (q_22, .inl (cII, 4, .inr (.inr (.inr (.inr (fun i => if i < 4 then some (r_23 i) else none)))))) :: ((r_23 0), .inl (cI, 3618, .inl (fun _ => 0))) :: ((r_23 1), .inl (cI, 3618, .inl (fun _ => 0))) :: ((r_23 2), .inl (cI, 3618, .inl (fun _ => 0))) :: ((r_23 3), .inl (cI, 3618, .inl (fun _ => 0))) :: rt_21 : va_W) H := hP
  have hD : va_D A ((h0, .inr (26, fs_20)) :: (q_22, .inl (cII, 4, .inr (.inr (.inr (.inr (fun i => if i < 4 then some (r_23 i) else none)))))) :: ((r_23 0), .inl (cI, 3618, .inl (fun _ => 0))) :: ((r_23 1), .inl (cI, 3618, .inl (fun _ => 0))) :: ((r_23 2), .inl (cI, 3618, .inl (fun _ => 0))) :: ((r_23 3), .inl (cI, 3618, .inl (fun _ => 0))) :: rt_21 : va_W) := hD
  rw [qh_row4] at hP hD
  generalize r_23 0 = q_22_0 at hP hD
  generalize r_23 1 = q_22_1 at hP hD
  generalize r_23 2 = q_22_2 at hP hD
  generalize r_23 3 = q_22_3 at hP hD
  have hP : va_P (dC, dI) vwCl ((h0, .inr (26, fs_20)) :: (q_22, .inl (cII, 4, .inr (.inr (.inr (.inr (fun i => [q_22_0, q_22_1, q_22_2, q_22_3][i]?)))))) :: (q_22_0, .inl (cI, 3618, .inl (fun _ => 0))) :: (q_22_1, .inl (cI, 3618, .inl (fun _ => 0))) :: (q_22_2, .inl (cI, 3618, .inl (fun _ => 0))) :: (q_22_3, .inl (cI, 3618, .inl (fun _ => 0))) :: rt_21 : va_W) H := hP
  have hD : va_D A ((h0, .inr (26, fs_20)) :: (q_22, .inl (cII, 4, .inr (.inr (.inr (.inr (fun i => [q_22_0, q_22_1, q_22_2, q_22_3][i]?)))))) :: (q_22_0, .inl (cI, 3618, .inl (fun _ => 0))) :: (q_22_1, .inl (cI, 3618, .inl (fun _ => 0))) :: (q_22_2, .inl (cI, 3618, .inl (fun _ => 0))) :: (q_22_3, .inl (cI, 3618, .inl (fun _ => 0))) :: rt_21 : va_W) := hD
  refine va_putF (D := (dC, dI)) (fs := fs_20) (ci := 26) (v := .ref q_22) (ty := .array (.array .int)) (C := RX21) (T := TX21) (N := 95) hx hb hts qh_in21 tyX21 tyX21_ok nmX21 hown hK hP hD hS 0 rfl rfl 8 (by decide) (hts (.fieldLink RX21 34 "QueryHallModel" "answerKinds" "[[I") (by decide +kernel)) (fun _ h9 => h9) rfl hin rfl (by decide +kernel) rfl rfl (by rw [hlfs_20]; decide) dX21_init_128 (fun H locs hP hD hS => ?_)
  have hP : va_P (dC, dI) vwCl ((h0, .inr (26, fs_20.set 8 (.ref q_22))) :: (q_22, .inl (cII, 4, .inr (.inr (.inr (.inr (fun i => [q_22_0, q_22_1, q_22_2, q_22_3][i]?)))))) :: (q_22_0, .inl (cI, 3618, .inl (fun _ => 0))) :: (q_22_1, .inl (cI, 3618, .inl (fun _ => 0))) :: (q_22_2, .inl (cI, 3618, .inl (fun _ => 0))) :: (q_22_3, .inl (cI, 3618, .inl (fun _ => 0))) :: rt_21 : va_W) H := hP
  have hD : va_D A ((h0, .inr (26, fs_20.set 8 (.ref q_22))) :: (q_22, .inl (cII, 4, .inr (.inr (.inr (.inr (fun i => [q_22_0, q_22_1, q_22_2, q_22_3][i]?)))))) :: (q_22_0, .inl (cI, 3618, .inl (fun _ => 0))) :: (q_22_1, .inl (cI, 3618, .inl (fun _ => 0))) :: (q_22_2, .inl (cI, 3618, .inl (fun _ => 0))) :: (q_22_3, .inl (cI, 3618, .inl (fun _ => 0))) :: rt_21 : va_W) := hD
  generalize hfs_24 : fs_20.set 8 (.ref q_22) = fs_24 at hP hD
  have hlfs_24 : fs_24.length = 95 := by rw [← hfs_24, List.length_set]; exact hlfs_20
  generalize hrt_25 : ((q_22, .inl (cII, 4, .inr (.inr (.inr (.inr (fun i => [q_22_0, q_22_1, q_22_2, q_22_3][i]?)))))) :: (q_22_0, .inl (cI, 3618, .inl (fun _ => 0))) :: (q_22_1, .inl (cI, 3618, .inl (fun _ => 0))) :: (q_22_2, .inl (cI, 3618, .inl (fun _ => 0))) :: (q_22_3, .inl (cI, 3618, .inl (fun _ => 0))) :: rt_21 : va_W) = rt_25 at hP hD
  subst hrt_25
  subst hrt_21
  subst hrt_18
  subst hrt_15
  subst hrt_12
  subst hrt_9
  subst hrt_6
  subst hrt_3
  clear hlfs_24
  clear hlfs_20
  clear hlfs_17
  clear hlfs_14
  clear hlfs_11
  clear hlfs_8
  clear hlfs_5
  clear hlfs_2
  subst hfs_24
  subst hfs_20
  subst hfs_17
  subst hfs_14
  subst hfs_11
  subst hfs_8
  subst hfs_5
  subst hfs_2
  have hP : va_P (dC, dI) vwCl ((h0, .inr (26, (((((((fs_0.set 1 (.ref q_1)).set 2 (.ref q_4)).set 3 (.ref q_7)).set 4 (.ref q_10)).set 5 (.ref q_13)).set 6 (.ref q_16)).set 7 (.ref q_19)).set 8 (.ref q_22))) :: (q_22, .inl (cII, 4, .inr (.inr (.inr (.inr (fun i => [q_22_0, q_22_1, q_22_2, q_22_3][i]?)))))) :: (q_22_0, .inl (cI, 3618, .inl (fun _ => 0))) :: (q_22_1, .inl (cI, 3618, .inl (fun _ => 0))) :: (q_22_2, .inl (cI, 3618, .inl (fun _ => 0))) :: (q_22_3, .inl (cI, 3618, .inl (fun _ => 0))) :: (q_19, .inl (cI, 4, .inl (fun _ => 0))) :: (q_16, .inl (cI, 4, .inl (upd (upd (upd (upd (fun _ => 0) 0 (-1)) 1 (-1)) 2 (-1)) 3 (-1)))) :: (q_13, .inl (cI, 4, .inl (upd (upd (upd (upd (fun _ => 0) 0 (-1)) 1 (-1)) 2 (-1)) 3 (-1)))) :: (q_10, .inl (cI, 4, .inl (upd (upd (upd (upd (fun _ => 0) 0 (-1)) 1 (-1)) 2 (-1)) 3 (-1)))) :: (q_7, .inl (cI, 4, .inl (upd (upd (upd (upd (fun _ => 0) 0 (-1)) 1 (-1)) 2 (-1)) 3 (-1)))) :: (q_4, .inl (cB, 1600, .inl (fun _ => 0))) :: (q_1, .inl (cI, 4, .inl (fun _ => 0))) :: r0 : va_W) H := hP
  have hD : va_D A ((h0, .inr (26, (((((((fs_0.set 1 (.ref q_1)).set 2 (.ref q_4)).set 3 (.ref q_7)).set 4 (.ref q_10)).set 5 (.ref q_13)).set 6 (.ref q_16)).set 7 (.ref q_19)).set 8 (.ref q_22))) :: (q_22, .inl (cII, 4, .inr (.inr (.inr (.inr (fun i => [q_22_0, q_22_1, q_22_2, q_22_3][i]?)))))) :: (q_22_0, .inl (cI, 3618, .inl (fun _ => 0))) :: (q_22_1, .inl (cI, 3618, .inl (fun _ => 0))) :: (q_22_2, .inl (cI, 3618, .inl (fun _ => 0))) :: (q_22_3, .inl (cI, 3618, .inl (fun _ => 0))) :: (q_19, .inl (cI, 4, .inl (fun _ => 0))) :: (q_16, .inl (cI, 4, .inl (upd (upd (upd (upd (fun _ => 0) 0 (-1)) 1 (-1)) 2 (-1)) 3 (-1)))) :: (q_13, .inl (cI, 4, .inl (upd (upd (upd (upd (fun _ => 0) 0 (-1)) 1 (-1)) 2 (-1)) 3 (-1)))) :: (q_10, .inl (cI, 4, .inl (upd (upd (upd (upd (fun _ => 0) 0 (-1)) 1 (-1)) 2 (-1)) 3 (-1)))) :: (q_7, .inl (cI, 4, .inl (upd (upd (upd (upd (fun _ => 0) 0 (-1)) 1 (-1)) 2 (-1)) 3 (-1)))) :: (q_4, .inl (cB, 1600, .inl (fun _ => 0))) :: (q_1, .inl (cI, 4, .inl (fun _ => 0))) :: r0 : va_W) := hD
  exact kk q_22 q_22_0 q_22_1 q_22_2 q_22_3 q_19 q_16 q_13 q_10 q_7 q_4 q_1 H locs hP hD hS
set_option maxHeartbeats 40000000 in
set_option maxRecDepth 100000 in
/-- the reference: QueryHallModel(), from 131 to 203 -/
theorem c_X21_init_131 {p : Program} {l : Launch} {e : Env} {s : State} {m : MethodId} {args : Array Value} {below : List Frame} {meth : Method} {c : Code} {H : Heap} {locs : List Loc} {Q : State → Prop} {A : Nat → Prop} {ls : Array Slot} (dC : Nat → ClassId) (dI : Nat → Nat → Nat) (cI cJ cB cZ cJJ cII cSt cLk : ClassId) (h0 ed ks vs n : Nat) (bf : Nat → Int32) (fs_0 : List Value) (hlfs_0 : fs_0.length = 95) (r0 : va_W) (hx : p.tables.exec = Jvm.exec) (hb : c.code = cX21_init) (hml : c.maxLocals = 7) (hts : ∀ w ∈ wsX21_init, w.before args s = true) (hown : s.vm.findClass RX21 = some m.cls) (hin : meth.name = "<init>") (hK : va_K (dC, dI) vwCl [(cI, .int), (cJ, .long), (cB, .byte), (cZ, .boolean), (cJJ, .array .long), (cII, .array .int), (cSt, .object RX20), (cLk, .object RX16)] s) (hA : ∀ q : Nat, s.heap.size ≤ q → A q) (hE0 : va_Z "java/util/ArrayList" "DEFAULTCAPACITY_EMPTY_ELEMENTDATA" "[Ljava/lang/Object;" (.ref ed) A s s.heap) (hE1 : va_AOA .long s) (hE2 : va_AOA .int s) (hE3 : va_AO RX20 s) (hE4 : va_AO RX16 s) (hE5 : vk_R RX21 240 "create table index on insert into values update set where delete from begin commit rollback number truth text not null select distinct left join group by having order desc or and is in true false count exists sum min max " ks s) (hE6 : va_Z "java/lang/String" "COMPACT_STRINGS" "Z" (.int 1) A s s.heap) (hE7 : va_OF "java/lang/String" "coder" "B" (.int 0) ks A s s.heap) (hE8 : va_OF "java/lang/String" "value" "[B" (.ref vs) ks A s s.heap) (hE9 : va_O "java/lang/String" ks A s s.heap) (hE10 : va_T .byte vs n (fun j => .int (bf j)) A s s.heap) (hE11 : va_Zq "jdk/internal/util/Preconditions" "SIOOBE_FORMATTER" "Ljava/util/function/BiFunction;" A s s.heap) (hl : lv_has ls 7 [(0, .ref h0)]) (hP : va_P (dC, dI) vwCl ((h0, .inr (26, fs_0)) :: r0 : va_W) H) (hD : va_D A ((h0, .inr (26, fs_0)) :: r0 : va_W)) (hS : va_S A s.heap H locs) (kk : ∀ (q_50 q_47 q_44 q_41 q_37 q_37_0 q_37_1 q_37_2 q_37_3 q_34 q_30 q_30_0 q_30_1 q_30_2 q_30_3 q_26 q_26_0 q_26_1 q_26_2 q_26_3 : Nat) (H : Heap) (locs : List Loc), va_P (dC, dI) vwCl ((h0, .inr (26, (((((((fs_0.set 9 (.ref q_26)).set 10 (.ref q_30)).set 11 (.ref q_34)).set 12 (.ref q_37)).set 13 (.ref q_41)).set 14 (.ref q_44)).set 15 (.ref q_47)).set 16 (.ref q_50))) :: (q_50, .inl (cZ, 4, .inl (fun _ => 0))) :: (q_47, .inl (cI, 4, .inl (fun _ => 0))) :: (q_44, .inl (cLk, 4, .inr (.inr (.inr (.inr (fun _ => none)))))) :: (q_41, .inl (cSt, 4, .inr (.inr (.inr (.inr (fun _ => none)))))) :: (q_37, .inl (cJJ, 4, .inr (.inr (.inr (.inr (fun i => [q_37_0, q_37_1, q_37_2, q_37_3][i]?)))))) :: (q_37_0, .inl (cJ, 15, .inr (.inl (fun _ => 0)))) :: (q_37_1, .inl (cJ, 15, .inr (.inl (fun _ => 0)))) :: (q_37_2, .inl (cJ, 15, .inr (.inl (fun _ => 0)))) :: (q_37_3, .inl (cJ, 15, .inr (.inl (fun _ => 0)))) :: (q_34, .inl (cI, 4, .inl (fun _ => 0))) :: (q_30, .inl (cJJ, 4, .inr (.inr (.inr (.inr (fun i => [q_30_0, q_30_1, q_30_2, q_30_3][i]?)))))) :: (q_30_0, .inl (cJ, 3618, .inr (.inl (fun _ => 0)))) :: (q_30_1, .inl (cJ, 3618, .inr (.inl (fun _ => 0)))) :: (q_30_2, .inl (cJ, 3618, .inr (.inl (fun _ => 0)))) :: (q_30_3, .inl (cJ, 3618, .inr (.inl (fun _ => 0)))) :: (q_26, .inl (cJJ, 4, .inr (.inr (.inr (.inr (fun i => [q_26_0, q_26_1, q_26_2, q_26_3][i]?)))))) :: (q_26_0, .inl (cJ, 3618, .inr (.inl (fun _ => 0)))) :: (q_26_1, .inl (cJ, 3618, .inr (.inl (fun _ => 0)))) :: (q_26_2, .inl (cJ, 3618, .inr (.inl (fun _ => 0)))) :: (q_26_3, .inl (cJ, 3618, .inr (.inl (fun _ => 0)))) :: r0 : va_W) H → va_D A ((h0, .inr (26, (((((((fs_0.set 9 (.ref q_26)).set 10 (.ref q_30)).set 11 (.ref q_34)).set 12 (.ref q_37)).set 13 (.ref q_41)).set 14 (.ref q_44)).set 15 (.ref q_47)).set 16 (.ref q_50))) :: (q_50, .inl (cZ, 4, .inl (fun _ => 0))) :: (q_47, .inl (cI, 4, .inl (fun _ => 0))) :: (q_44, .inl (cLk, 4, .inr (.inr (.inr (.inr (fun _ => none)))))) :: (q_41, .inl (cSt, 4, .inr (.inr (.inr (.inr (fun _ => none)))))) :: (q_37, .inl (cJJ, 4, .inr (.inr (.inr (.inr (fun i => [q_37_0, q_37_1, q_37_2, q_37_3][i]?)))))) :: (q_37_0, .inl (cJ, 15, .inr (.inl (fun _ => 0)))) :: (q_37_1, .inl (cJ, 15, .inr (.inl (fun _ => 0)))) :: (q_37_2, .inl (cJ, 15, .inr (.inl (fun _ => 0)))) :: (q_37_3, .inl (cJ, 15, .inr (.inl (fun _ => 0)))) :: (q_34, .inl (cI, 4, .inl (fun _ => 0))) :: (q_30, .inl (cJJ, 4, .inr (.inr (.inr (.inr (fun i => [q_30_0, q_30_1, q_30_2, q_30_3][i]?)))))) :: (q_30_0, .inl (cJ, 3618, .inr (.inl (fun _ => 0)))) :: (q_30_1, .inl (cJ, 3618, .inr (.inl (fun _ => 0)))) :: (q_30_2, .inl (cJ, 3618, .inr (.inl (fun _ => 0)))) :: (q_30_3, .inl (cJ, 3618, .inr (.inl (fun _ => 0)))) :: (q_26, .inl (cJJ, 4, .inr (.inr (.inr (.inr (fun i => [q_26_0, q_26_1, q_26_2, q_26_3][i]?)))))) :: (q_26_0, .inl (cJ, 3618, .inr (.inl (fun _ => 0)))) :: (q_26_1, .inl (cJ, 3618, .inr (.inl (fun _ => 0)))) :: (q_26_2, .inl (cJ, 3618, .inr (.inl (fun _ => 0)))) :: (q_26_3, .inl (cJ, 3618, .inr (.inl (fun _ => 0)))) :: r0 : va_W) → va_S A s.heap H locs → W p l e (headSpec wsX21_init { frames := 8, cells := 113, slots := 306930, locals := 300 }).room s m args below meth c H locs 32 45136 Q (F0 m 203 ls [])) : W p l e (headSpec wsX21_init { frames := 8, cells := 113, slots := 306930, locals := 300 }).room s m args below meth c H locs 12 16100 Q (F0 m 131 ls []) := by
  refine lv_aload_n hx hb dX21_init_131 rfl (lv_at hl 0 rfl) ?_
  refine lv_iconst (v := 4) hx hb dX21_init_132 (by decide) ?_
  refine lv_sipush (v := 3618) hx hb dX21_init_133 (by decide) ?_
  refine qh_mna (own := RX21) (index := 37) (ty := .long) (cI := cJ) (n := 4) (k := 3618) (N' := 4) (K' := 3618) (z := (3618, .inr (.inl (fun _ => 0)))) hx hb hown ((show ("[" ++ (FieldType.array .long).toString) = "[[J" by decide +kernel).symm ▸ hts (.classLink RX21 37 "[[J") (by decide +kernel)) hE1 (hts (.arrayClass .long) (by decide +kernel)) ((show (FieldType.array .long).toString = "[J" by decide +kernel) ▸ va_nm_long (hK.2 1 _ rfl).2) hK hP hD hS hA 4 rfl (by decide) (by decide) (by decide) (by decide) (by decide) (by decide) (by decide) rfl rfl (Nat.le_of_ble_eq_true rfl) (Nat.le_of_ble_eq_true rfl) (fun c => by show ({ cls := c, slots := Array.replicate 3618 _, vm := .none } : Cell) = _; rw [arrV_new]; rfl) dX21_init_136 (fun q_26 r_27 H hP hD hS => ?_)
  rw [List.append_assoc] at hP hD
  have hP := qh_frontP (o := (h0, .inr (26, fs_0))) (r := r0) (X := [(q_26, .inl (cJJ, 4, .inr (.inr (.inr (.inr (fun i => if i < 4 then some (r_27 i) else none)))))), ((r_27 0), .inl (cJ, 3618, .inr (.inl (fun _ => 0)))), ((r_27 1), .inl (cJ, 3618, .inr (.inl (fun _ => 0)))), ((r_27 2), .inl (cJ, 3618, .inr (.inl (fun _ => 0)))), ((r_27 3), .inl (cJ, 3618, .inr (.inl (fun _ => 0))))]) hP
  have hD := qh_frontD (o := (h0, .inr (26, fs_0))) (r := r0) (X := [(q_26, .inl (cJJ, 4, .inr (.inr (.inr (.inr (fun i => if i < 4 then some (r_27 i) else none)))))), ((r_27 0), .inl (cJ, 3618, .inr (.inl (fun _ => 0)))), ((r_27 1), .inl (cJ, 3618, .inr (.inl (fun _ => 0)))), ((r_27 2), .inl (cJ, 3618, .inr (.inl (fun _ => 0)))), ((r_27 3), .inl (cJ, 3618, .inr (.inl (fun _ => 0))))]) hD
  have hP : va_P (dC, dI) vwCl ((h0, .inr (26, fs_0)) :: (q_26, .inl (cJJ, 4, .inr (.inr (.inr (.inr (fun i => if i < 4 then some (r_27 i) else none)))))) :: ((r_27 0), .inl (cJ, 3618, .inr (.inl (fun _ => 0)))) :: ((r_27 1), .inl (cJ, 3618, .inr (.inl (fun _ => 0)))) :: ((r_27 2), .inl (cJ, 3618, .inr (.inl (fun _ => 0)))) :: ((r_27 3), .inl (cJ, 3618, .inr (.inl (fun _ => 0)))) :: r0 : va_W) H := hP
  have hD : va_D A ((h0, .inr (26, fs_0)) :: (q_26, .inl (cJJ, 4, .inr (.inr (.inr (.inr (fun i => if i < 4 then some (r_27 i) else none)))))) :: ((r_27 0), .inl (cJ, 3618, .inr (.inl (fun _ => 0)))) :: ((r_27 1), .inl (cJ, 3618, .inr (.inl (fun _ => 0)))) :: ((r_27 2), .inl (cJ, 3618, .inr (.inl (fun _ => 0)))) :: ((r_27 3), .inl (cJ, 3618, .inr (.inl (fun _ => 0)))) :: r0 : va_W) := hD
  rw [qh_row4] at hP hD
  generalize r_27 0 = q_26_0 at hP hD
  generalize r_27 1 = q_26_1 at hP hD
  generalize r_27 2 = q_26_2 at hP hD
  generalize r_27 3 = q_26_3 at hP hD
  have hP : va_P (dC, dI) vwCl ((h0, .inr (26, fs_0)) :: (q_26, .inl (cJJ, 4, .inr (.inr (.inr (.inr (fun i => [q_26_0, q_26_1, q_26_2, q_26_3][i]?)))))) :: (q_26_0, .inl (cJ, 3618, .inr (.inl (fun _ => 0)))) :: (q_26_1, .inl (cJ, 3618, .inr (.inl (fun _ => 0)))) :: (q_26_2, .inl (cJ, 3618, .inr (.inl (fun _ => 0)))) :: (q_26_3, .inl (cJ, 3618, .inr (.inl (fun _ => 0)))) :: r0 : va_W) H := hP
  have hD : va_D A ((h0, .inr (26, fs_0)) :: (q_26, .inl (cJJ, 4, .inr (.inr (.inr (.inr (fun i => [q_26_0, q_26_1, q_26_2, q_26_3][i]?)))))) :: (q_26_0, .inl (cJ, 3618, .inr (.inl (fun _ => 0)))) :: (q_26_1, .inl (cJ, 3618, .inr (.inl (fun _ => 0)))) :: (q_26_2, .inl (cJ, 3618, .inr (.inl (fun _ => 0)))) :: (q_26_3, .inl (cJ, 3618, .inr (.inl (fun _ => 0)))) :: r0 : va_W) := hD
  refine va_putF (D := (dC, dI)) (fs := fs_0) (ci := 26) (v := .ref q_26) (ty := .array (.array .long)) (C := RX21) (T := TX21) (N := 95) hx hb hts qh_in21 tyX21 tyX21_ok nmX21 hown hK hP hD hS 0 rfl rfl 9 (by decide) (hts (.fieldLink RX21 39 "QueryHallModel" "answerHigh" "[[J") (by decide +kernel)) (fun _ h9 => h9) rfl hin rfl (by decide +kernel) rfl rfl (by rw [hlfs_0]; decide) dX21_init_140 (fun H locs hP hD hS => ?_)
  have hP : va_P (dC, dI) vwCl ((h0, .inr (26, fs_0.set 9 (.ref q_26))) :: (q_26, .inl (cJJ, 4, .inr (.inr (.inr (.inr (fun i => [q_26_0, q_26_1, q_26_2, q_26_3][i]?)))))) :: (q_26_0, .inl (cJ, 3618, .inr (.inl (fun _ => 0)))) :: (q_26_1, .inl (cJ, 3618, .inr (.inl (fun _ => 0)))) :: (q_26_2, .inl (cJ, 3618, .inr (.inl (fun _ => 0)))) :: (q_26_3, .inl (cJ, 3618, .inr (.inl (fun _ => 0)))) :: r0 : va_W) H := hP
  have hD : va_D A ((h0, .inr (26, fs_0.set 9 (.ref q_26))) :: (q_26, .inl (cJJ, 4, .inr (.inr (.inr (.inr (fun i => [q_26_0, q_26_1, q_26_2, q_26_3][i]?)))))) :: (q_26_0, .inl (cJ, 3618, .inr (.inl (fun _ => 0)))) :: (q_26_1, .inl (cJ, 3618, .inr (.inl (fun _ => 0)))) :: (q_26_2, .inl (cJ, 3618, .inr (.inl (fun _ => 0)))) :: (q_26_3, .inl (cJ, 3618, .inr (.inl (fun _ => 0)))) :: r0 : va_W) := hD
  generalize hfs_28 : fs_0.set 9 (.ref q_26) = fs_28 at hP hD
  have hlfs_28 : fs_28.length = 95 := by rw [← hfs_28, List.length_set]; exact hlfs_0
  generalize hrt_29 : ((q_26, .inl (cJJ, 4, .inr (.inr (.inr (.inr (fun i => [q_26_0, q_26_1, q_26_2, q_26_3][i]?)))))) :: (q_26_0, .inl (cJ, 3618, .inr (.inl (fun _ => 0)))) :: (q_26_1, .inl (cJ, 3618, .inr (.inl (fun _ => 0)))) :: (q_26_2, .inl (cJ, 3618, .inr (.inl (fun _ => 0)))) :: (q_26_3, .inl (cJ, 3618, .inr (.inl (fun _ => 0)))) :: r0 : va_W) = rt_29 at hP hD
  refine lv_aload_n hx hb dX21_init_143 rfl (lv_at hl 0 rfl) ?_
  refine lv_iconst (v := 4) hx hb dX21_init_144 (by decide) ?_
  refine lv_sipush (v := 3618) hx hb dX21_init_145 (by decide) ?_
  refine qh_mna (own := RX21) (index := 37) (ty := .long) (cI := cJ) (n := 4) (k := 3618) (N' := 4) (K' := 3618) (z := (3618, .inr (.inl (fun _ => 0)))) hx hb hown ((show ("[" ++ (FieldType.array .long).toString) = "[[J" by decide +kernel).symm ▸ hts (.classLink RX21 37 "[[J") (by decide +kernel)) hE1 (hts (.arrayClass .long) (by decide +kernel)) ((show (FieldType.array .long).toString = "[J" by decide +kernel) ▸ va_nm_long (hK.2 1 _ rfl).2) hK hP hD hS hA 4 rfl (by decide) (by decide) (by decide) (by decide) (by decide) (by decide) (by decide) rfl rfl (Nat.le_of_ble_eq_true rfl) (Nat.le_of_ble_eq_true rfl) (fun c => by show ({ cls := c, slots := Array.replicate 3618 _, vm := .none } : Cell) = _; rw [arrV_new]; rfl) dX21_init_148 (fun q_30 r_31 H hP hD hS => ?_)
  rw [List.append_assoc] at hP hD
  have hP := qh_frontP (o := (h0, .inr (26, fs_28))) (r := rt_29) (X := [(q_30, .inl (cJJ, 4, .inr (.inr (.inr (.inr (fun i => if i < 4 then some (r_31 i) else none)))))), ((r_31 0), .inl (cJ, 3618, .inr (.inl (fun _ => 0)))), ((r_31 1), .inl (cJ, 3618, .inr (.inl (fun _ => 0)))), ((r_31 2), .inl (cJ, 3618, .inr (.inl (fun _ => 0)))), ((r_31 3), .inl (cJ, 3618, .inr (.inl (fun _ => 0))))]) hP
  have hD := qh_frontD (o := (h0, .inr (26, fs_28))) (r := rt_29) (X := [(q_30, .inl (cJJ, 4, .inr (.inr (.inr (.inr (fun i => if i < 4 then some (r_31 i) else none)))))), ((r_31 0), .inl (cJ, 3618, .inr (.inl (fun _ => 0)))), ((r_31 1), .inl (cJ, 3618, .inr (.inl (fun _ => 0)))), ((r_31 2), .inl (cJ, 3618, .inr (.inl (fun _ => 0)))), ((r_31 3), .inl (cJ, 3618, .inr (.inl (fun _ => 0))))]) hD
  have hP : va_P (dC, dI) vwCl ((h0, .inr (26, fs_28)) :: (q_30, .inl (cJJ, 4, .inr (.inr (.inr (.inr (fun i => if i < 4 then some (r_31 i) else none)))))) :: ((r_31 0), .inl (cJ, 3618, .inr (.inl (fun _ => 0)))) :: ((r_31 1), .inl (cJ, 3618, .inr (.inl (fun _ => 0)))) :: ((r_31 2), .inl (cJ, 3618, .inr (.inl (fun _ => 0)))) :: ((r_31 3), .inl (cJ, 3618, .inr (.inl (fun _ => 0)))) :: rt_29 : va_W) H := hP
  have hD : va_D A ((h0, .inr (26, fs_28)) :: (q_30, .inl (cJJ, 4, .inr (.inr (.inr (.inr (fun i => if i < 4 then some (r_31 i) else none)))))) :: ((r_31 0), .inl (cJ, 3618, .inr (.inl (fun _ => 0)))) :: ((r_31 1), .inl (cJ, 3618, .inr (.inl (fun _ => 0)))) :: ((r_31 2), .inl (cJ, 3618, .inr (.inl (fun _ => 0)))) :: ((r_31 3), .inl (cJ, 3618, .inr (.inl (fun _ => 0)))) :: rt_29 : va_W) := hD
  rw [qh_row4] at hP hD
  generalize r_31 0 = q_30_0 at hP hD
  generalize r_31 1 = q_30_1 at hP hD
  generalize r_31 2 = q_30_2 at hP hD
  generalize r_31 3 = q_30_3 at hP hD
  have hP : va_P (dC, dI) vwCl ((h0, .inr (26, fs_28)) :: (q_30, .inl (cJJ, 4, .inr (.inr (.inr (.inr (fun i => [q_30_0, q_30_1, q_30_2, q_30_3][i]?)))))) :: (q_30_0, .inl (cJ, 3618, .inr (.inl (fun _ => 0)))) :: (q_30_1, .inl (cJ, 3618, .inr (.inl (fun _ => 0)))) :: (q_30_2, .inl (cJ, 3618, .inr (.inl (fun _ => 0)))) :: (q_30_3, .inl (cJ, 3618, .inr (.inl (fun _ => 0)))) :: rt_29 : va_W) H := hP
  have hD : va_D A ((h0, .inr (26, fs_28)) :: (q_30, .inl (cJJ, 4, .inr (.inr (.inr (.inr (fun i => [q_30_0, q_30_1, q_30_2, q_30_3][i]?)))))) :: (q_30_0, .inl (cJ, 3618, .inr (.inl (fun _ => 0)))) :: (q_30_1, .inl (cJ, 3618, .inr (.inl (fun _ => 0)))) :: (q_30_2, .inl (cJ, 3618, .inr (.inl (fun _ => 0)))) :: (q_30_3, .inl (cJ, 3618, .inr (.inl (fun _ => 0)))) :: rt_29 : va_W) := hD
  refine va_putF (D := (dC, dI)) (fs := fs_28) (ci := 26) (v := .ref q_30) (ty := .array (.array .long)) (C := RX21) (T := TX21) (N := 95) hx hb hts qh_in21 tyX21 tyX21_ok nmX21 hown hK hP hD hS 0 rfl rfl 10 (by decide) (hts (.fieldLink RX21 42 "QueryHallModel" "answerLow" "[[J") (by decide +kernel)) (fun _ h9 => h9) rfl hin rfl (by decide +kernel) rfl rfl (by rw [hlfs_28]; decide) dX21_init_152 (fun H locs hP hD hS => ?_)
  have hP : va_P (dC, dI) vwCl ((h0, .inr (26, fs_28.set 10 (.ref q_30))) :: (q_30, .inl (cJJ, 4, .inr (.inr (.inr (.inr (fun i => [q_30_0, q_30_1, q_30_2, q_30_3][i]?)))))) :: (q_30_0, .inl (cJ, 3618, .inr (.inl (fun _ => 0)))) :: (q_30_1, .inl (cJ, 3618, .inr (.inl (fun _ => 0)))) :: (q_30_2, .inl (cJ, 3618, .inr (.inl (fun _ => 0)))) :: (q_30_3, .inl (cJ, 3618, .inr (.inl (fun _ => 0)))) :: rt_29 : va_W) H := hP
  have hD : va_D A ((h0, .inr (26, fs_28.set 10 (.ref q_30))) :: (q_30, .inl (cJJ, 4, .inr (.inr (.inr (.inr (fun i => [q_30_0, q_30_1, q_30_2, q_30_3][i]?)))))) :: (q_30_0, .inl (cJ, 3618, .inr (.inl (fun _ => 0)))) :: (q_30_1, .inl (cJ, 3618, .inr (.inl (fun _ => 0)))) :: (q_30_2, .inl (cJ, 3618, .inr (.inl (fun _ => 0)))) :: (q_30_3, .inl (cJ, 3618, .inr (.inl (fun _ => 0)))) :: rt_29 : va_W) := hD
  generalize hfs_32 : fs_28.set 10 (.ref q_30) = fs_32 at hP hD
  have hlfs_32 : fs_32.length = 95 := by rw [← hfs_32, List.length_set]; exact hlfs_28
  generalize hrt_33 : ((q_30, .inl (cJJ, 4, .inr (.inr (.inr (.inr (fun i => [q_30_0, q_30_1, q_30_2, q_30_3][i]?)))))) :: (q_30_0, .inl (cJ, 3618, .inr (.inl (fun _ => 0)))) :: (q_30_1, .inl (cJ, 3618, .inr (.inl (fun _ => 0)))) :: (q_30_2, .inl (cJ, 3618, .inr (.inl (fun _ => 0)))) :: (q_30_3, .inl (cJ, 3618, .inr (.inl (fun _ => 0)))) :: rt_29 : va_W) = rt_33 at hP hD
  refine lv_aload_n hx hb dX21_init_155 rfl (lv_at hl 0 rfl) ?_
  refine lv_iconst (v := 4) hx hb dX21_init_156 (by decide) ?_
  refine qh_newa (atype := .int) (ty := .int) (n := 4) (N' := 4) (a0 := (4, .inl (fun _ => 0))) hx hb (hts (.arrayClass .int) (by decide +kernel)) rfl hK hP hD hS hA 0 rfl (qh_ai .int 4 rfl) (by decide) (by decide) (by decide) (Nat.le_of_ble_eq_true rfl) (Nat.le_of_ble_eq_true rfl) dX21_init_157 (fun q_34 H hP hD hS => ?_)
  have hP := qh_frontP (o := (h0, .inr (26, fs_32))) (r := rt_33) (X := [(q_34, .inl (cI, 4, .inl (fun _ => 0)))]) hP
  have hD := qh_frontD (o := (h0, .inr (26, fs_32))) (r := rt_33) (X := [(q_34, .inl (cI, 4, .inl (fun _ => 0)))]) hD
  have hP : va_P (dC, dI) vwCl ((h0, .inr (26, fs_32)) :: (q_34, .inl (cI, 4, .inl (fun _ => 0))) :: rt_33 : va_W) H := hP
  have hD : va_D A ((h0, .inr (26, fs_32)) :: (q_34, .inl (cI, 4, .inl (fun _ => 0))) :: rt_33 : va_W) := hD
  refine va_putF (D := (dC, dI)) (fs := fs_32) (ci := 26) (v := .ref q_34) (ty := .array .int) (C := RX21) (T := TX21) (N := 95) hx hb hts qh_in21 tyX21 tyX21_ok nmX21 hown hK hP hD hS 0 rfl rfl 11 (by decide) (hts (.fieldLink RX21 45 "QueryHallModel" "planSteps" "[I") (by decide +kernel)) (fun _ h9 => h9) rfl hin rfl (by decide +kernel) rfl rfl (by rw [hlfs_32]; decide) dX21_init_159 (fun H locs hP hD hS => ?_)
  have hP : va_P (dC, dI) vwCl ((h0, .inr (26, fs_32.set 11 (.ref q_34))) :: (q_34, .inl (cI, 4, .inl (fun _ => 0))) :: rt_33 : va_W) H := hP
  have hD : va_D A ((h0, .inr (26, fs_32.set 11 (.ref q_34))) :: (q_34, .inl (cI, 4, .inl (fun _ => 0))) :: rt_33 : va_W) := hD
  generalize hfs_35 : fs_32.set 11 (.ref q_34) = fs_35 at hP hD
  have hlfs_35 : fs_35.length = 95 := by rw [← hfs_35, List.length_set]; exact hlfs_32
  generalize hrt_36 : ((q_34, .inl (cI, 4, .inl (fun _ => 0))) :: rt_33 : va_W) = rt_36 at hP hD
  refine lv_aload_n hx hb dX21_init_162 rfl (lv_at hl 0 rfl) ?_
  refine lv_iconst (v := 4) hx hb dX21_init_163 (by decide) ?_
  refine lv_bipush (v := 15) hx hb dX21_init_164 (by decide) ?_
  refine qh_mna (own := RX21) (index := 37) (ty := .long) (cI := cJ) (n := 4) (k := 15) (N' := 4) (K' := 15) (z := (15, .inr (.inl (fun _ => 0)))) hx hb hown ((show ("[" ++ (FieldType.array .long).toString) = "[[J" by decide +kernel).symm ▸ hts (.classLink RX21 37 "[[J") (by decide +kernel)) hE1 (hts (.arrayClass .long) (by decide +kernel)) ((show (FieldType.array .long).toString = "[J" by decide +kernel) ▸ va_nm_long (hK.2 1 _ rfl).2) hK hP hD hS hA 4 rfl (by decide) (by decide) (by decide) (by decide) (by decide) (by decide) (by decide) rfl rfl (Nat.le_of_ble_eq_true rfl) (Nat.le_of_ble_eq_true rfl) (fun c => by show ({ cls := c, slots := Array.replicate 15 _, vm := .none } : Cell) = _; rw [arrV_new]; rfl) dX21_init_166 (fun q_37 r_38 H hP hD hS => ?_)
  rw [List.append_assoc] at hP hD
  have hP := qh_frontP (o := (h0, .inr (26, fs_35))) (r := rt_36) (X := [(q_37, .inl (cJJ, 4, .inr (.inr (.inr (.inr (fun i => if i < 4 then some (r_38 i) else none)))))), ((r_38 0), .inl (cJ, 15, .inr (.inl (fun _ => 0)))), ((r_38 1), .inl (cJ, 15, .inr (.inl (fun _ => 0)))), ((r_38 2), .inl (cJ, 15, .inr (.inl (fun _ => 0)))), ((r_38 3), .inl (cJ, 15, .inr (.inl (fun _ => 0))))]) hP
  have hD := qh_frontD (o := (h0, .inr (26, fs_35))) (r := rt_36) (X := [(q_37, .inl (cJJ, 4, .inr (.inr (.inr (.inr (fun i => if i < 4 then some (r_38 i) else none)))))), ((r_38 0), .inl (cJ, 15, .inr (.inl (fun _ => 0)))), ((r_38 1), .inl (cJ, 15, .inr (.inl (fun _ => 0)))), ((r_38 2), .inl (cJ, 15, .inr (.inl (fun _ => 0)))), ((r_38 3), .inl (cJ, 15, .inr (.inl (fun _ => 0))))]) hD
  have hP : va_P (dC, dI) vwCl ((h0, .inr (26, fs_35)) :: (q_37, .inl (cJJ, 4, .inr (.inr (.inr (.inr (fun i => if i < 4 then some (r_38 i) else none)))))) :: ((r_38 0), .inl (cJ, 15, .inr (.inl (fun _ => 0)))) :: ((r_38 1), .inl (cJ, 15, .inr (.inl (fun _ => 0)))) :: ((r_38 2), .inl (cJ, 15, .inr (.inl (fun _ => 0)))) :: ((r_38 3), .inl (cJ, 15, .inr (.inl (fun _ => 0)))) :: rt_36 : va_W) H := hP
  have hD : va_D A ((h0, .inr (26, fs_35)) :: (q_37, .inl (cJJ, 4, .inr (.inr (.inr (.inr (fun i => if i < 4 then some (r_38 i) else none)))))) :: ((r_38 0), .inl (cJ, 15, .inr (.inl (fun _ => 0)))) :: ((r_38 1), .inl (cJ, 15, .inr (.inl (fun _ => 0)))) :: ((r_38 2), .inl (cJ, 15, .inr (.inl (fun _ => 0)))) :: ((r_38 3), .inl (cJ, 15, .inr (.inl (fun _ => 0)))) :: rt_36 : va_W) := hD
  rw [qh_row4] at hP hD
  generalize r_38 0 = q_37_0 at hP hD
  generalize r_38 1 = q_37_1 at hP hD
  generalize r_38 2 = q_37_2 at hP hD
  generalize r_38 3 = q_37_3 at hP hD
  have hP : va_P (dC, dI) vwCl ((h0, .inr (26, fs_35)) :: (q_37, .inl (cJJ, 4, .inr (.inr (.inr (.inr (fun i => [q_37_0, q_37_1, q_37_2, q_37_3][i]?)))))) :: (q_37_0, .inl (cJ, 15, .inr (.inl (fun _ => 0)))) :: (q_37_1, .inl (cJ, 15, .inr (.inl (fun _ => 0)))) :: (q_37_2, .inl (cJ, 15, .inr (.inl (fun _ => 0)))) :: (q_37_3, .inl (cJ, 15, .inr (.inl (fun _ => 0)))) :: rt_36 : va_W) H := hP
  have hD : va_D A ((h0, .inr (26, fs_35)) :: (q_37, .inl (cJJ, 4, .inr (.inr (.inr (.inr (fun i => [q_37_0, q_37_1, q_37_2, q_37_3][i]?)))))) :: (q_37_0, .inl (cJ, 15, .inr (.inl (fun _ => 0)))) :: (q_37_1, .inl (cJ, 15, .inr (.inl (fun _ => 0)))) :: (q_37_2, .inl (cJ, 15, .inr (.inl (fun _ => 0)))) :: (q_37_3, .inl (cJ, 15, .inr (.inl (fun _ => 0)))) :: rt_36 : va_W) := hD
  refine va_putF (D := (dC, dI)) (fs := fs_35) (ci := 26) (v := .ref q_37) (ty := .array (.array .long)) (C := RX21) (T := TX21) (N := 95) hx hb hts qh_in21 tyX21 tyX21_ok nmX21 hown hK hP hD hS 0 rfl rfl 12 (by decide) (hts (.fieldLink RX21 48 "QueryHallModel" "plans" "[[J") (by decide +kernel)) (fun _ h9 => h9) rfl hin rfl (by decide +kernel) rfl rfl (by rw [hlfs_35]; decide) dX21_init_170 (fun H locs hP hD hS => ?_)
  have hP : va_P (dC, dI) vwCl ((h0, .inr (26, fs_35.set 12 (.ref q_37))) :: (q_37, .inl (cJJ, 4, .inr (.inr (.inr (.inr (fun i => [q_37_0, q_37_1, q_37_2, q_37_3][i]?)))))) :: (q_37_0, .inl (cJ, 15, .inr (.inl (fun _ => 0)))) :: (q_37_1, .inl (cJ, 15, .inr (.inl (fun _ => 0)))) :: (q_37_2, .inl (cJ, 15, .inr (.inl (fun _ => 0)))) :: (q_37_3, .inl (cJ, 15, .inr (.inl (fun _ => 0)))) :: rt_36 : va_W) H := hP
  have hD : va_D A ((h0, .inr (26, fs_35.set 12 (.ref q_37))) :: (q_37, .inl (cJJ, 4, .inr (.inr (.inr (.inr (fun i => [q_37_0, q_37_1, q_37_2, q_37_3][i]?)))))) :: (q_37_0, .inl (cJ, 15, .inr (.inl (fun _ => 0)))) :: (q_37_1, .inl (cJ, 15, .inr (.inl (fun _ => 0)))) :: (q_37_2, .inl (cJ, 15, .inr (.inl (fun _ => 0)))) :: (q_37_3, .inl (cJ, 15, .inr (.inl (fun _ => 0)))) :: rt_36 : va_W) := hD
  generalize hfs_39 : fs_35.set 12 (.ref q_37) = fs_39 at hP hD
  have hlfs_39 : fs_39.length = 95 := by rw [← hfs_39, List.length_set]; exact hlfs_35
  generalize hrt_40 : ((q_37, .inl (cJJ, 4, .inr (.inr (.inr (.inr (fun i => [q_37_0, q_37_1, q_37_2, q_37_3][i]?)))))) :: (q_37_0, .inl (cJ, 15, .inr (.inl (fun _ => 0)))) :: (q_37_1, .inl (cJ, 15, .inr (.inl (fun _ => 0)))) :: (q_37_2, .inl (cJ, 15, .inr (.inl (fun _ => 0)))) :: (q_37_3, .inl (cJ, 15, .inr (.inl (fun _ => 0)))) :: rt_36 : va_W) = rt_40 at hP hD
  refine lv_aload_n hx hb dX21_init_173 rfl (lv_at hl 0 rfl) ?_
  refine lv_iconst (v := 4) hx hb dX21_init_174 (by decide) ?_
  refine qh_newq (own := RX21) (C := RX20) (n := 4) (N' := 4) hx hb hown (hts (.classLink RX21 51 RX20) (by decide +kernel)) hE3 hK hP hD hS hA 6 rfl (by decide) (by decide) (by decide) (Nat.le_of_ble_eq_true rfl) (Nat.le_of_ble_eq_true rfl) dX21_init_175 (fun q_41 H hP hD hS => ?_)
  have hP := qh_frontP (o := (h0, .inr (26, fs_39))) (r := rt_40) (X := [(q_41, .inl (cSt, 4, .inr (.inr (.inr (.inr (fun _ => none))))))]) hP
  have hD := qh_frontD (o := (h0, .inr (26, fs_39))) (r := rt_40) (X := [(q_41, .inl (cSt, 4, .inr (.inr (.inr (.inr (fun _ => none))))))]) hD
  have hP : va_P (dC, dI) vwCl ((h0, .inr (26, fs_39)) :: (q_41, .inl (cSt, 4, .inr (.inr (.inr (.inr (fun _ => none)))))) :: rt_40 : va_W) H := hP
  have hD : va_D A ((h0, .inr (26, fs_39)) :: (q_41, .inl (cSt, 4, .inr (.inr (.inr (.inr (fun _ => none)))))) :: rt_40 : va_W) := hD
  refine va_putF (D := (dC, dI)) (fs := fs_39) (ci := 26) (v := .ref q_41) (ty := .array (.object "QueryHallModel$Statement")) (C := RX21) (T := TX21) (N := 95) hx hb hts qh_in21 tyX21 tyX21_ok nmX21 hown hK hP hD hS 0 rfl rfl 13 (by decide) (hts (.fieldLink RX21 53 "QueryHallModel" "statements" "[LQueryHallModel$Statement;") (by decide +kernel)) (fun _ h9 => h9) rfl hin rfl (by decide +kernel) rfl rfl (by rw [hlfs_39]; decide) dX21_init_178 (fun H locs hP hD hS => ?_)
  have hP : va_P (dC, dI) vwCl ((h0, .inr (26, fs_39.set 13 (.ref q_41))) :: (q_41, .inl (cSt, 4, .inr (.inr (.inr (.inr (fun _ => none)))))) :: rt_40 : va_W) H := hP
  have hD : va_D A ((h0, .inr (26, fs_39.set 13 (.ref q_41))) :: (q_41, .inl (cSt, 4, .inr (.inr (.inr (.inr (fun _ => none)))))) :: rt_40 : va_W) := hD
  generalize hfs_42 : fs_39.set 13 (.ref q_41) = fs_42 at hP hD
  have hlfs_42 : fs_42.length = 95 := by rw [← hfs_42, List.length_set]; exact hlfs_39
  generalize hrt_43 : ((q_41, .inl (cSt, 4, .inr (.inr (.inr (.inr (fun _ => none)))))) :: rt_40 : va_W) = rt_43 at hP hD
  refine lv_aload_n hx hb dX21_init_181 rfl (lv_at hl 0 rfl) ?_
  refine lv_iconst (v := 4) hx hb dX21_init_182 (by decide) ?_
  refine qh_newq (own := RX21) (C := RX16) (n := 4) (N' := 4) hx hb hown (hts (.classLink RX21 57 RX16) (by decide +kernel)) hE4 hK hP hD hS hA 7 rfl (by decide) (by decide) (by decide) (Nat.le_of_ble_eq_true rfl) (Nat.le_of_ble_eq_true rfl) dX21_init_183 (fun q_44 H hP hD hS => ?_)
  have hP := qh_frontP (o := (h0, .inr (26, fs_42))) (r := rt_43) (X := [(q_44, .inl (cLk, 4, .inr (.inr (.inr (.inr (fun _ => none))))))]) hP
  have hD := qh_frontD (o := (h0, .inr (26, fs_42))) (r := rt_43) (X := [(q_44, .inl (cLk, 4, .inr (.inr (.inr (.inr (fun _ => none))))))]) hD
  have hP : va_P (dC, dI) vwCl ((h0, .inr (26, fs_42)) :: (q_44, .inl (cLk, 4, .inr (.inr (.inr (.inr (fun _ => none)))))) :: rt_43 : va_W) H := hP
  have hD : va_D A ((h0, .inr (26, fs_42)) :: (q_44, .inl (cLk, 4, .inr (.inr (.inr (.inr (fun _ => none)))))) :: rt_43 : va_W) := hD
  refine va_putF (D := (dC, dI)) (fs := fs_42) (ci := 26) (v := .ref q_44) (ty := .array (.object "QueryHallModel$Lock")) (C := RX21) (T := TX21) (N := 95) hx hb hts qh_in21 tyX21 tyX21_ok nmX21 hown hK hP hD hS 0 rfl rfl 14 (by decide) (hts (.fieldLink RX21 59 "QueryHallModel" "waits" "[LQueryHallModel$Lock;") (by decide +kernel)) (fun _ h9 => h9) rfl hin rfl (by decide +kernel) rfl rfl (by rw [hlfs_42]; decide) dX21_init_186 (fun H locs hP hD hS => ?_)
  have hP : va_P (dC, dI) vwCl ((h0, .inr (26, fs_42.set 14 (.ref q_44))) :: (q_44, .inl (cLk, 4, .inr (.inr (.inr (.inr (fun _ => none)))))) :: rt_43 : va_W) H := hP
  have hD : va_D A ((h0, .inr (26, fs_42.set 14 (.ref q_44))) :: (q_44, .inl (cLk, 4, .inr (.inr (.inr (.inr (fun _ => none)))))) :: rt_43 : va_W) := hD
  generalize hfs_45 : fs_42.set 14 (.ref q_44) = fs_45 at hP hD
  have hlfs_45 : fs_45.length = 95 := by rw [← hfs_45, List.length_set]; exact hlfs_42
  generalize hrt_46 : ((q_44, .inl (cLk, 4, .inr (.inr (.inr (.inr (fun _ => none)))))) :: rt_43 : va_W) = rt_46 at hP hD
  refine lv_aload_n hx hb dX21_init_189 rfl (lv_at hl 0 rfl) ?_
  refine lv_iconst (v := 4) hx hb dX21_init_190 (by decide) ?_
  refine qh_newa (atype := .int) (ty := .int) (n := 4) (N' := 4) (a0 := (4, .inl (fun _ => 0))) hx hb (hts (.arrayClass .int) (by decide +kernel)) rfl hK hP hD hS hA 0 rfl (qh_ai .int 4 rfl) (by decide) (by decide) (by decide) (Nat.le_of_ble_eq_true rfl) (Nat.le_of_ble_eq_true rfl) dX21_init_191 (fun q_47 H hP hD hS => ?_)
  have hP := qh_frontP (o := (h0, .inr (26, fs_45))) (r := rt_46) (X := [(q_47, .inl (cI, 4, .inl (fun _ => 0)))]) hP
  have hD := qh_frontD (o := (h0, .inr (26, fs_45))) (r := rt_46) (X := [(q_47, .inl (cI, 4, .inl (fun _ => 0)))]) hD
  have hP : va_P (dC, dI) vwCl ((h0, .inr (26, fs_45)) :: (q_47, .inl (cI, 4, .inl (fun _ => 0))) :: rt_46 : va_W) H := hP
  have hD : va_D A ((h0, .inr (26, fs_45)) :: (q_47, .inl (cI, 4, .inl (fun _ => 0))) :: rt_46 : va_W) := hD
  refine va_putF (D := (dC, dI)) (fs := fs_45) (ci := 26) (v := .ref q_47) (ty := .array .int) (C := RX21) (T := TX21) (N := 95) hx hb hts qh_in21 tyX21 tyX21_ok nmX21 hown hK hP hD hS 0 rfl rfl 15 (by decide) (hts (.fieldLink RX21 63 "QueryHallModel" "transactions" "[I") (by decide +kernel)) (fun _ h9 => h9) rfl hin rfl (by decide +kernel) rfl rfl (by rw [hlfs_45]; decide) dX21_init_193 (fun H locs hP hD hS => ?_)
  have hP : va_P (dC, dI) vwCl ((h0, .inr (26, fs_45.set 15 (.ref q_47))) :: (q_47, .inl (cI, 4, .inl (fun _ => 0))) :: rt_46 : va_W) H := hP
  have hD : va_D A ((h0, .inr (26, fs_45.set 15 (.ref q_47))) :: (q_47, .inl (cI, 4, .inl (fun _ => 0))) :: rt_46 : va_W) := hD
  generalize hfs_48 : fs_45.set 15 (.ref q_47) = fs_48 at hP hD
  have hlfs_48 : fs_48.length = 95 := by rw [← hfs_48, List.length_set]; exact hlfs_45
  generalize hrt_49 : ((q_47, .inl (cI, 4, .inl (fun _ => 0))) :: rt_46 : va_W) = rt_49 at hP hD
  refine lv_aload_n hx hb dX21_init_196 rfl (lv_at hl 0 rfl) ?_
  refine lv_iconst (v := 4) hx hb dX21_init_197 (by decide) ?_
  refine qh_newa (atype := .boolean) (ty := .boolean) (n := 4) (N' := 4) (a0 := (4, .inl (fun _ => 0))) hx hb (hts (.arrayClass .boolean) (by decide +kernel)) rfl hK hP hD hS hA 3 rfl (qh_ai .boolean 4 rfl) (by decide) (by decide) (by decide) (Nat.le_of_ble_eq_true rfl) (Nat.le_of_ble_eq_true rfl) dX21_init_198 (fun q_50 H hP hD hS => ?_)
  have hP := qh_frontP (o := (h0, .inr (26, fs_48))) (r := rt_49) (X := [(q_50, .inl (cZ, 4, .inl (fun _ => 0)))]) hP
  have hD := qh_frontD (o := (h0, .inr (26, fs_48))) (r := rt_49) (X := [(q_50, .inl (cZ, 4, .inl (fun _ => 0)))]) hD
  have hP : va_P (dC, dI) vwCl ((h0, .inr (26, fs_48)) :: (q_50, .inl (cZ, 4, .inl (fun _ => 0))) :: rt_49 : va_W) H := hP
  have hD : va_D A ((h0, .inr (26, fs_48)) :: (q_50, .inl (cZ, 4, .inl (fun _ => 0))) :: rt_49 : va_W) := hD
  refine va_putF (D := (dC, dI)) (fs := fs_48) (ci := 26) (v := .ref q_50) (ty := .array .boolean) (C := RX21) (T := TX21) (N := 95) hx hb hts qh_in21 tyX21 tyX21_ok nmX21 hown hK hP hD hS 0 rfl rfl 16 (by decide) (hts (.fieldLink RX21 66 "QueryHallModel" "begun" "[Z") (by decide +kernel)) (fun _ h9 => h9) rfl hin rfl (by decide +kernel) rfl rfl (by rw [hlfs_48]; decide) dX21_init_200 (fun H locs hP hD hS => ?_)
  have hP : va_P (dC, dI) vwCl ((h0, .inr (26, fs_48.set 16 (.ref q_50))) :: (q_50, .inl (cZ, 4, .inl (fun _ => 0))) :: rt_49 : va_W) H := hP
  have hD : va_D A ((h0, .inr (26, fs_48.set 16 (.ref q_50))) :: (q_50, .inl (cZ, 4, .inl (fun _ => 0))) :: rt_49 : va_W) := hD
  generalize hfs_51 : fs_48.set 16 (.ref q_50) = fs_51 at hP hD
  have hlfs_51 : fs_51.length = 95 := by rw [← hfs_51, List.length_set]; exact hlfs_48
  generalize hrt_52 : ((q_50, .inl (cZ, 4, .inl (fun _ => 0))) :: rt_49 : va_W) = rt_52 at hP hD
  subst hrt_52
  subst hrt_49
  subst hrt_46
  subst hrt_43
  subst hrt_40
  subst hrt_36
  subst hrt_33
  subst hrt_29
  clear hlfs_51
  clear hlfs_48
  clear hlfs_45
  clear hlfs_42
  clear hlfs_39
  clear hlfs_35
  clear hlfs_32
  clear hlfs_28
  subst hfs_51
  subst hfs_48
  subst hfs_45
  subst hfs_42
  subst hfs_39
  subst hfs_35
  subst hfs_32
  subst hfs_28
  have hP : va_P (dC, dI) vwCl ((h0, .inr (26, (((((((fs_0.set 9 (.ref q_26)).set 10 (.ref q_30)).set 11 (.ref q_34)).set 12 (.ref q_37)).set 13 (.ref q_41)).set 14 (.ref q_44)).set 15 (.ref q_47)).set 16 (.ref q_50))) :: (q_50, .inl (cZ, 4, .inl (fun _ => 0))) :: (q_47, .inl (cI, 4, .inl (fun _ => 0))) :: (q_44, .inl (cLk, 4, .inr (.inr (.inr (.inr (fun _ => none)))))) :: (q_41, .inl (cSt, 4, .inr (.inr (.inr (.inr (fun _ => none)))))) :: (q_37, .inl (cJJ, 4, .inr (.inr (.inr (.inr (fun i => [q_37_0, q_37_1, q_37_2, q_37_3][i]?)))))) :: (q_37_0, .inl (cJ, 15, .inr (.inl (fun _ => 0)))) :: (q_37_1, .inl (cJ, 15, .inr (.inl (fun _ => 0)))) :: (q_37_2, .inl (cJ, 15, .inr (.inl (fun _ => 0)))) :: (q_37_3, .inl (cJ, 15, .inr (.inl (fun _ => 0)))) :: (q_34, .inl (cI, 4, .inl (fun _ => 0))) :: (q_30, .inl (cJJ, 4, .inr (.inr (.inr (.inr (fun i => [q_30_0, q_30_1, q_30_2, q_30_3][i]?)))))) :: (q_30_0, .inl (cJ, 3618, .inr (.inl (fun _ => 0)))) :: (q_30_1, .inl (cJ, 3618, .inr (.inl (fun _ => 0)))) :: (q_30_2, .inl (cJ, 3618, .inr (.inl (fun _ => 0)))) :: (q_30_3, .inl (cJ, 3618, .inr (.inl (fun _ => 0)))) :: (q_26, .inl (cJJ, 4, .inr (.inr (.inr (.inr (fun i => [q_26_0, q_26_1, q_26_2, q_26_3][i]?)))))) :: (q_26_0, .inl (cJ, 3618, .inr (.inl (fun _ => 0)))) :: (q_26_1, .inl (cJ, 3618, .inr (.inl (fun _ => 0)))) :: (q_26_2, .inl (cJ, 3618, .inr (.inl (fun _ => 0)))) :: (q_26_3, .inl (cJ, 3618, .inr (.inl (fun _ => 0)))) :: r0 : va_W) H := hP
  have hD : va_D A ((h0, .inr (26, (((((((fs_0.set 9 (.ref q_26)).set 10 (.ref q_30)).set 11 (.ref q_34)).set 12 (.ref q_37)).set 13 (.ref q_41)).set 14 (.ref q_44)).set 15 (.ref q_47)).set 16 (.ref q_50))) :: (q_50, .inl (cZ, 4, .inl (fun _ => 0))) :: (q_47, .inl (cI, 4, .inl (fun _ => 0))) :: (q_44, .inl (cLk, 4, .inr (.inr (.inr (.inr (fun _ => none)))))) :: (q_41, .inl (cSt, 4, .inr (.inr (.inr (.inr (fun _ => none)))))) :: (q_37, .inl (cJJ, 4, .inr (.inr (.inr (.inr (fun i => [q_37_0, q_37_1, q_37_2, q_37_3][i]?)))))) :: (q_37_0, .inl (cJ, 15, .inr (.inl (fun _ => 0)))) :: (q_37_1, .inl (cJ, 15, .inr (.inl (fun _ => 0)))) :: (q_37_2, .inl (cJ, 15, .inr (.inl (fun _ => 0)))) :: (q_37_3, .inl (cJ, 15, .inr (.inl (fun _ => 0)))) :: (q_34, .inl (cI, 4, .inl (fun _ => 0))) :: (q_30, .inl (cJJ, 4, .inr (.inr (.inr (.inr (fun i => [q_30_0, q_30_1, q_30_2, q_30_3][i]?)))))) :: (q_30_0, .inl (cJ, 3618, .inr (.inl (fun _ => 0)))) :: (q_30_1, .inl (cJ, 3618, .inr (.inl (fun _ => 0)))) :: (q_30_2, .inl (cJ, 3618, .inr (.inl (fun _ => 0)))) :: (q_30_3, .inl (cJ, 3618, .inr (.inl (fun _ => 0)))) :: (q_26, .inl (cJJ, 4, .inr (.inr (.inr (.inr (fun i => [q_26_0, q_26_1, q_26_2, q_26_3][i]?)))))) :: (q_26_0, .inl (cJ, 3618, .inr (.inl (fun _ => 0)))) :: (q_26_1, .inl (cJ, 3618, .inr (.inl (fun _ => 0)))) :: (q_26_2, .inl (cJ, 3618, .inr (.inl (fun _ => 0)))) :: (q_26_3, .inl (cJ, 3618, .inr (.inl (fun _ => 0)))) :: r0 : va_W) := hD
  exact kk q_50 q_47 q_44 q_41 q_37 q_37_0 q_37_1 q_37_2 q_37_3 q_34 q_30 q_30_0 q_30_1 q_30_2 q_30_3 q_26 q_26_0 q_26_1 q_26_2 q_26_3 H locs hP hD hS
set_option maxHeartbeats 40000000 in
set_option maxRecDepth 100000 in
/-- the reference: QueryHallModel(), from 203 to 263 -/
theorem c_X21_init_203 {p : Program} {l : Launch} {e : Env} {s : State} {m : MethodId} {args : Array Value} {below : List Frame} {meth : Method} {c : Code} {H : Heap} {locs : List Loc} {Q : State → Prop} {A : Nat → Prop} {ls : Array Slot} (dC : Nat → ClassId) (dI : Nat → Nat → Nat) (cI cJ cB cZ cJJ cII cSt cLk : ClassId) (h0 ed ks vs n : Nat) (bf : Nat → Int32) (fs_0 : List Value) (hlfs_0 : fs_0.length = 95) (r0 : va_W) (hx : p.tables.exec = Jvm.exec) (hb : c.code = cX21_init) (hml : c.maxLocals = 7) (hts : ∀ w ∈ wsX21_init, w.before args s = true) (hown : s.vm.findClass RX21 = some m.cls) (hin : meth.name = "<init>") (hK : va_K (dC, dI) vwCl [(cI, .int), (cJ, .long), (cB, .byte), (cZ, .boolean), (cJJ, .array .long), (cII, .array .int), (cSt, .object RX20), (cLk, .object RX16)] s) (hA : ∀ q : Nat, s.heap.size ≤ q → A q) (hE0 : va_Z "java/util/ArrayList" "DEFAULTCAPACITY_EMPTY_ELEMENTDATA" "[Ljava/lang/Object;" (.ref ed) A s s.heap) (hE1 : va_AOA .long s) (hE2 : va_AOA .int s) (hE3 : va_AO RX20 s) (hE4 : va_AO RX16 s) (hE5 : vk_R RX21 240 "create table index on insert into values update set where delete from begin commit rollback number truth text not null select distinct left join group by having order desc or and is in true false count exists sum min max " ks s) (hE6 : va_Z "java/lang/String" "COMPACT_STRINGS" "Z" (.int 1) A s s.heap) (hE7 : va_OF "java/lang/String" "coder" "B" (.int 0) ks A s s.heap) (hE8 : va_OF "java/lang/String" "value" "[B" (.ref vs) ks A s s.heap) (hE9 : va_O "java/lang/String" ks A s s.heap) (hE10 : va_T .byte vs n (fun j => .int (bf j)) A s s.heap) (hE11 : va_Zq "jdk/internal/util/Preconditions" "SIOOBE_FORMATTER" "Ljava/util/function/BiFunction;" A s s.heap) (hl : lv_has ls 7 [(0, .ref h0)]) (hP : va_P (dC, dI) vwCl ((h0, .inr (26, fs_0)) :: r0 : va_W) H) (hD : va_D A ((h0, .inr (26, fs_0)) :: r0 : va_W)) (hS : va_S A s.heap H locs) (kk : ∀ (q_72 q_69 q_66 q_63 q_60 q_57 q_53 : Nat) (H : Heap) (locs : List Loc), va_P (dC, dI) vwCl ((h0, .inr (26, (((((((fs_0.set 17 (.ref q_53)).set 18 (.int 1)).set 20 (.ref q_57)).set 21 (.ref q_60)).set 22 (.ref q_63)).set 23 (.ref q_66)).set 24 (.ref q_69)).set 25 (.ref q_72))) :: (q_72, .inl (cI, 6, .inl (fun _ => 0))) :: (q_69, .inl (cZ, 36, .inl (fun _ => 0))) :: (q_66, .inl (cI, 36, .inl (fun _ => 0))) :: (q_63, .inl (cJ, 36, .inr (.inl (fun _ => 0)))) :: (q_60, .inl (cI, 6, .inl (fun _ => 0))) :: (q_57, .inl (cJ, 6, .inr (.inl (fun _ => 0)))) :: (q_53, .inl (cI, 4, .inl (fun _ => 0))) :: r0 : va_W) H → va_D A ((h0, .inr (26, (((((((fs_0.set 17 (.ref q_53)).set 18 (.int 1)).set 20 (.ref q_57)).set 21 (.ref q_60)).set 22 (.ref q_63)).set 23 (.ref q_66)).set 24 (.ref q_69)).set 25 (.ref q_72))) :: (q_72, .inl (cI, 6, .inl (fun _ => 0))) :: (q_69, .inl (cZ, 36, .inl (fun _ => 0))) :: (q_66, .inl (cI, 36, .inl (fun _ => 0))) :: (q_63, .inl (cJ, 36, .inr (.inl (fun _ => 0)))) :: (q_60, .inl (cI, 6, .inl (fun _ => 0))) :: (q_57, .inl (cJ, 6, .inr (.inl (fun _ => 0)))) :: (q_53, .inl (cI, 4, .inl (fun _ => 0))) :: r0 : va_W) → va_S A s.heap H locs → W p l e (headSpec wsX21_init { frames := 8, cells := 113, slots := 306930, locals := 300 }).room s m args below meth c H locs 39 45266 Q (F0 m 263 ls [])) : W p l e (headSpec wsX21_init { frames := 8, cells := 113, slots := 306930, locals := 300 }).room s m args below meth c H locs 32 45136 Q (F0 m 203 ls []) := by
  refine lv_aload_n hx hb dX21_init_203 rfl (lv_at hl 0 rfl) ?_
  refine lv_iconst (v := 4) hx hb dX21_init_204 (by decide) ?_
  refine qh_newa (atype := .int) (ty := .int) (n := 4) (N' := 4) (a0 := (4, .inl (fun _ => 0))) hx hb (hts (.arrayClass .int) (by decide +kernel)) rfl hK hP hD hS hA 0 rfl (qh_ai .int 4 rfl) (by decide) (by decide) (by decide) (Nat.le_of_ble_eq_true rfl) (Nat.le_of_ble_eq_true rfl) dX21_init_205 (fun q_53 H hP hD hS => ?_)
  have hP := qh_frontP (o := (h0, .inr (26, fs_0))) (r := r0) (X := [(q_53, .inl (cI, 4, .inl (fun _ => 0)))]) hP
  have hD := qh_frontD (o := (h0, .inr (26, fs_0))) (r := r0) (X := [(q_53, .inl (cI, 4, .inl (fun _ => 0)))]) hD
  have hP : va_P (dC, dI) vwCl ((h0, .inr (26, fs_0)) :: (q_53, .inl (cI, 4, .inl (fun _ => 0))) :: r0 : va_W) H := hP
  have hD : va_D A ((h0, .inr (26, fs_0)) :: (q_53, .inl (cI, 4, .inl (fun _ => 0))) :: r0 : va_W) := hD
  refine va_putF (D := (dC, dI)) (fs := fs_0) (ci := 26) (v := .ref q_53) (ty := .array .int) (C := RX21) (T := TX21) (N := 95) hx hb hts qh_in21 tyX21 tyX21_ok nmX21 hown hK hP hD hS 0 rfl rfl 17 (by decide) (hts (.fieldLink RX21 70 "QueryHallModel" "begins" "[I") (by decide +kernel)) (fun _ h9 => h9) rfl hin rfl (by decide +kernel) rfl rfl (by rw [hlfs_0]; decide) dX21_init_207 (fun H locs hP hD hS => ?_)
  have hP : va_P (dC, dI) vwCl ((h0, .inr (26, fs_0.set 17 (.ref q_53))) :: (q_53, .inl (cI, 4, .inl (fun _ => 0))) :: r0 : va_W) H := hP
  have hD : va_D A ((h0, .inr (26, fs_0.set 17 (.ref q_53))) :: (q_53, .inl (cI, 4, .inl (fun _ => 0))) :: r0 : va_W) := hD
  generalize hfs_54 : fs_0.set 17 (.ref q_53) = fs_54 at hP hD
  have hlfs_54 : fs_54.length = 95 := by rw [← hfs_54, List.length_set]; exact hlfs_0
  generalize hrt_55 : ((q_53, .inl (cI, 4, .inl (fun _ => 0))) :: r0 : va_W) = rt_55 at hP hD
  refine lv_aload_n hx hb dX21_init_210 rfl (lv_at hl 0 rfl) ?_
  refine lv_iconst (v := 1) hx hb dX21_init_211 (by decide) ?_
  refine va_put (D := (dC, dI)) (fs := fs_54) (ci := 26) (v := .int 1) (ty := .int) (C := RX21) (T := TX21) (N := 95) hx hb hts qh_in21 tyX21 tyX21_ok nmX21 hown hK hP hD hS 0 rfl rfl 18 (by decide) (hts (.fieldLink RX21 73 "QueryHallModel" "nextTransaction" "I") (by decide +kernel)) (fun _ h9 => h9) rfl (by decide +kernel) rfl rfl (by rw [hlfs_54]; decide) dX21_init_212 (fun H locs hP hD hS => ?_)
  have hP : va_P (dC, dI) vwCl ((h0, .inr (26, fs_54.set 18 (.int 1))) :: rt_55 : va_W) H := hP
  have hD : va_D A ((h0, .inr (26, fs_54.set 18 (.int 1))) :: rt_55 : va_W) := hD
  generalize hfs_56 : fs_54.set 18 (.int 1) = fs_56 at hP hD
  have hlfs_56 : fs_56.length = 95 := by rw [← hfs_56, List.length_set]; exact hlfs_54
  refine lv_aload_n hx hb dX21_init_215 rfl (lv_at hl 0 rfl) ?_
  refine lv_bipush (v := 6) hx hb dX21_init_216 (by decide) ?_
  refine qh_newa (atype := .long) (ty := .long) (n := 6) (N' := 6) (a0 := (6, .inr (.inl (fun _ => 0)))) hx hb (hts (.arrayClass .long) (by decide +kernel)) rfl hK hP hD hS hA 1 rfl (qh_al 6) (by decide) (by decide) (by decide) (Nat.le_of_ble_eq_true rfl) (Nat.le_of_ble_eq_true rfl) dX21_init_218 (fun q_57 H hP hD hS => ?_)
  have hP := qh_frontP (o := (h0, .inr (26, fs_56))) (r := rt_55) (X := [(q_57, .inl (cJ, 6, .inr (.inl (fun _ => 0))))]) hP
  have hD := qh_frontD (o := (h0, .inr (26, fs_56))) (r := rt_55) (X := [(q_57, .inl (cJ, 6, .inr (.inl (fun _ => 0))))]) hD
  have hP : va_P (dC, dI) vwCl ((h0, .inr (26, fs_56)) :: (q_57, .inl (cJ, 6, .inr (.inl (fun _ => 0)))) :: rt_55 : va_W) H := hP
  have hD : va_D A ((h0, .inr (26, fs_56)) :: (q_57, .inl (cJ, 6, .inr (.inl (fun _ => 0)))) :: rt_55 : va_W) := hD
  refine va_putF (D := (dC, dI)) (fs := fs_56) (ci := 26) (v := .ref q_57) (ty := .array .long) (C := RX21) (T := TX21) (N := 95) hx hb hts qh_in21 tyX21 tyX21_ok nmX21 hown hK hP hD hS 0 rfl rfl 20 (by decide) (hts (.fieldLink RX21 77 "QueryHallModel" "tableNames" "[J") (by decide +kernel)) (fun _ h9 => h9) rfl hin rfl (by decide +kernel) rfl rfl (by rw [hlfs_56]; decide) dX21_init_220 (fun H locs hP hD hS => ?_)
  have hP : va_P (dC, dI) vwCl ((h0, .inr (26, fs_56.set 20 (.ref q_57))) :: (q_57, .inl (cJ, 6, .inr (.inl (fun _ => 0)))) :: rt_55 : va_W) H := hP
  have hD : va_D A ((h0, .inr (26, fs_56.set 20 (.ref q_57))) :: (q_57, .inl (cJ, 6, .inr (.inl (fun _ => 0)))) :: rt_55 : va_W) := hD
  generalize hfs_58 : fs_56.set 20 (.ref q_57) = fs_58 at hP hD
  have hlfs_58 : fs_58.length = 95 := by rw [← hfs_58, List.length_set]; exact hlfs_56
  generalize hrt_59 : ((q_57, .inl (cJ, 6, .inr (.inl (fun _ => 0)))) :: rt_55 : va_W) = rt_59 at hP hD
  refine lv_aload_n hx hb dX21_init_223 rfl (lv_at hl 0 rfl) ?_
  refine lv_bipush (v := 6) hx hb dX21_init_224 (by decide) ?_
  refine qh_newa (atype := .int) (ty := .int) (n := 6) (N' := 6) (a0 := (6, .inl (fun _ => 0))) hx hb (hts (.arrayClass .int) (by decide +kernel)) rfl hK hP hD hS hA 0 rfl (qh_ai .int 6 rfl) (by decide) (by decide) (by decide) (Nat.le_of_ble_eq_true rfl) (Nat.le_of_ble_eq_true rfl) dX21_init_226 (fun q_60 H hP hD hS => ?_)
  have hP := qh_frontP (o := (h0, .inr (26, fs_58))) (r := rt_59) (X := [(q_60, .inl (cI, 6, .inl (fun _ => 0)))]) hP
  have hD := qh_frontD (o := (h0, .inr (26, fs_58))) (r := rt_59) (X := [(q_60, .inl (cI, 6, .inl (fun _ => 0)))]) hD
  have hP : va_P (dC, dI) vwCl ((h0, .inr (26, fs_58)) :: (q_60, .inl (cI, 6, .inl (fun _ => 0))) :: rt_59 : va_W) H := hP
  have hD : va_D A ((h0, .inr (26, fs_58)) :: (q_60, .inl (cI, 6, .inl (fun _ => 0))) :: rt_59 : va_W) := hD
  refine va_putF (D := (dC, dI)) (fs := fs_58) (ci := 26) (v := .ref q_60) (ty := .array .int) (C := RX21) (T := TX21) (N := 95) hx hb hts qh_in21 tyX21 tyX21_ok nmX21 hown hK hP hD hS 0 rfl rfl 21 (by decide) (hts (.fieldLink RX21 81 "QueryHallModel" "columnCounts" "[I") (by decide +kernel)) (fun _ h9 => h9) rfl hin rfl (by decide +kernel) rfl rfl (by rw [hlfs_58]; decide) dX21_init_228 (fun H locs hP hD hS => ?_)
  have hP : va_P (dC, dI) vwCl ((h0, .inr (26, fs_58.set 21 (.ref q_60))) :: (q_60, .inl (cI, 6, .inl (fun _ => 0))) :: rt_59 : va_W) H := hP
  have hD : va_D A ((h0, .inr (26, fs_58.set 21 (.ref q_60))) :: (q_60, .inl (cI, 6, .inl (fun _ => 0))) :: rt_59 : va_W) := hD
  generalize hfs_61 : fs_58.set 21 (.ref q_60) = fs_61 at hP hD
  have hlfs_61 : fs_61.length = 95 := by rw [← hfs_61, List.length_set]; exact hlfs_58
  generalize hrt_62 : ((q_60, .inl (cI, 6, .inl (fun _ => 0))) :: rt_59 : va_W) = rt_62 at hP hD
  refine lv_aload_n hx hb dX21_init_231 rfl (lv_at hl 0 rfl) ?_
  refine lv_bipush (v := 36) hx hb dX21_init_232 (by decide) ?_
  refine qh_newa (atype := .long) (ty := .long) (n := 36) (N' := 36) (a0 := (36, .inr (.inl (fun _ => 0)))) hx hb (hts (.arrayClass .long) (by decide +kernel)) rfl hK hP hD hS hA 1 rfl (qh_al 36) (by decide) (by decide) (by decide) (Nat.le_of_ble_eq_true rfl) (Nat.le_of_ble_eq_true rfl) dX21_init_234 (fun q_63 H hP hD hS => ?_)
  have hP := qh_frontP (o := (h0, .inr (26, fs_61))) (r := rt_62) (X := [(q_63, .inl (cJ, 36, .inr (.inl (fun _ => 0))))]) hP
  have hD := qh_frontD (o := (h0, .inr (26, fs_61))) (r := rt_62) (X := [(q_63, .inl (cJ, 36, .inr (.inl (fun _ => 0))))]) hD
  have hP : va_P (dC, dI) vwCl ((h0, .inr (26, fs_61)) :: (q_63, .inl (cJ, 36, .inr (.inl (fun _ => 0)))) :: rt_62 : va_W) H := hP
  have hD : va_D A ((h0, .inr (26, fs_61)) :: (q_63, .inl (cJ, 36, .inr (.inl (fun _ => 0)))) :: rt_62 : va_W) := hD
  refine va_putF (D := (dC, dI)) (fs := fs_61) (ci := 26) (v := .ref q_63) (ty := .array .long) (C := RX21) (T := TX21) (N := 95) hx hb hts qh_in21 tyX21 tyX21_ok nmX21 hown hK hP hD hS 0 rfl rfl 22 (by decide) (hts (.fieldLink RX21 84 "QueryHallModel" "columnNames" "[J") (by decide +kernel)) (fun _ h9 => h9) rfl hin rfl (by decide +kernel) rfl rfl (by rw [hlfs_61]; decide) dX21_init_236 (fun H locs hP hD hS => ?_)
  have hP : va_P (dC, dI) vwCl ((h0, .inr (26, fs_61.set 22 (.ref q_63))) :: (q_63, .inl (cJ, 36, .inr (.inl (fun _ => 0)))) :: rt_62 : va_W) H := hP
  have hD : va_D A ((h0, .inr (26, fs_61.set 22 (.ref q_63))) :: (q_63, .inl (cJ, 36, .inr (.inl (fun _ => 0)))) :: rt_62 : va_W) := hD
  generalize hfs_64 : fs_61.set 22 (.ref q_63) = fs_64 at hP hD
  have hlfs_64 : fs_64.length = 95 := by rw [← hfs_64, List.length_set]; exact hlfs_61
  generalize hrt_65 : ((q_63, .inl (cJ, 36, .inr (.inl (fun _ => 0)))) :: rt_62 : va_W) = rt_65 at hP hD
  refine lv_aload_n hx hb dX21_init_239 rfl (lv_at hl 0 rfl) ?_
  refine lv_bipush (v := 36) hx hb dX21_init_240 (by decide) ?_
  refine qh_newa (atype := .int) (ty := .int) (n := 36) (N' := 36) (a0 := (36, .inl (fun _ => 0))) hx hb (hts (.arrayClass .int) (by decide +kernel)) rfl hK hP hD hS hA 0 rfl (qh_ai .int 36 rfl) (by decide) (by decide) (by decide) (Nat.le_of_ble_eq_true rfl) (Nat.le_of_ble_eq_true rfl) dX21_init_242 (fun q_66 H hP hD hS => ?_)
  have hP := qh_frontP (o := (h0, .inr (26, fs_64))) (r := rt_65) (X := [(q_66, .inl (cI, 36, .inl (fun _ => 0)))]) hP
  have hD := qh_frontD (o := (h0, .inr (26, fs_64))) (r := rt_65) (X := [(q_66, .inl (cI, 36, .inl (fun _ => 0)))]) hD
  have hP : va_P (dC, dI) vwCl ((h0, .inr (26, fs_64)) :: (q_66, .inl (cI, 36, .inl (fun _ => 0))) :: rt_65 : va_W) H := hP
  have hD : va_D A ((h0, .inr (26, fs_64)) :: (q_66, .inl (cI, 36, .inl (fun _ => 0))) :: rt_65 : va_W) := hD
  refine va_putF (D := (dC, dI)) (fs := fs_64) (ci := 26) (v := .ref q_66) (ty := .array .int) (C := RX21) (T := TX21) (N := 95) hx hb hts qh_in21 tyX21 tyX21_ok nmX21 hown hK hP hD hS 0 rfl rfl 23 (by decide) (hts (.fieldLink RX21 87 "QueryHallModel" "columnTypes" "[I") (by decide +kernel)) (fun _ h9 => h9) rfl hin rfl (by decide +kernel) rfl rfl (by rw [hlfs_64]; decide) dX21_init_244 (fun H locs hP hD hS => ?_)
  have hP : va_P (dC, dI) vwCl ((h0, .inr (26, fs_64.set 23 (.ref q_66))) :: (q_66, .inl (cI, 36, .inl (fun _ => 0))) :: rt_65 : va_W) H := hP
  have hD : va_D A ((h0, .inr (26, fs_64.set 23 (.ref q_66))) :: (q_66, .inl (cI, 36, .inl (fun _ => 0))) :: rt_65 : va_W) := hD
  generalize hfs_67 : fs_64.set 23 (.ref q_66) = fs_67 at hP hD
  have hlfs_67 : fs_67.length = 95 := by rw [← hfs_67, List.length_set]; exact hlfs_64
  generalize hrt_68 : ((q_66, .inl (cI, 36, .inl (fun _ => 0))) :: rt_65 : va_W) = rt_68 at hP hD
  refine lv_aload_n hx hb dX21_init_247 rfl (lv_at hl 0 rfl) ?_
  refine lv_bipush (v := 36) hx hb dX21_init_248 (by decide) ?_
  refine qh_newa (atype := .boolean) (ty := .boolean) (n := 36) (N' := 36) (a0 := (36, .inl (fun _ => 0))) hx hb (hts (.arrayClass .boolean) (by decide +kernel)) rfl hK hP hD hS hA 3 rfl (qh_ai .boolean 36 rfl) (by decide) (by decide) (by decide) (Nat.le_of_ble_eq_true rfl) (Nat.le_of_ble_eq_true rfl) dX21_init_250 (fun q_69 H hP hD hS => ?_)
  have hP := qh_frontP (o := (h0, .inr (26, fs_67))) (r := rt_68) (X := [(q_69, .inl (cZ, 36, .inl (fun _ => 0)))]) hP
  have hD := qh_frontD (o := (h0, .inr (26, fs_67))) (r := rt_68) (X := [(q_69, .inl (cZ, 36, .inl (fun _ => 0)))]) hD
  have hP : va_P (dC, dI) vwCl ((h0, .inr (26, fs_67)) :: (q_69, .inl (cZ, 36, .inl (fun _ => 0))) :: rt_68 : va_W) H := hP
  have hD : va_D A ((h0, .inr (26, fs_67)) :: (q_69, .inl (cZ, 36, .inl (fun _ => 0))) :: rt_68 : va_W) := hD
  refine va_putF (D := (dC, dI)) (fs := fs_67) (ci := 26) (v := .ref q_69) (ty := .array .boolean) (C := RX21) (T := TX21) (N := 95) hx hb hts qh_in21 tyX21 tyX21_ok nmX21 hown hK hP hD hS 0 rfl rfl 24 (by decide) (hts (.fieldLink RX21 90 "QueryHallModel" "mustBe" "[Z") (by decide +kernel)) (fun _ h9 => h9) rfl hin rfl (by decide +kernel) rfl rfl (by rw [hlfs_67]; decide) dX21_init_252 (fun H locs hP hD hS => ?_)
  have hP : va_P (dC, dI) vwCl ((h0, .inr (26, fs_67.set 24 (.ref q_69))) :: (q_69, .inl (cZ, 36, .inl (fun _ => 0))) :: rt_68 : va_W) H := hP
  have hD : va_D A ((h0, .inr (26, fs_67.set 24 (.ref q_69))) :: (q_69, .inl (cZ, 36, .inl (fun _ => 0))) :: rt_68 : va_W) := hD
  generalize hfs_70 : fs_67.set 24 (.ref q_69) = fs_70 at hP hD
  have hlfs_70 : fs_70.length = 95 := by rw [← hfs_70, List.length_set]; exact hlfs_67
  generalize hrt_71 : ((q_69, .inl (cZ, 36, .inl (fun _ => 0))) :: rt_68 : va_W) = rt_71 at hP hD
  refine lv_aload_n hx hb dX21_init_255 rfl (lv_at hl 0 rfl) ?_
  refine lv_bipush (v := 6) hx hb dX21_init_256 (by decide) ?_
  refine qh_newa (atype := .int) (ty := .int) (n := 6) (N' := 6) (a0 := (6, .inl (fun _ => 0))) hx hb (hts (.arrayClass .int) (by decide +kernel)) rfl hK hP hD hS hA 0 rfl (qh_ai .int 6 rfl) (by decide) (by decide) (by decide) (Nat.le_of_ble_eq_true rfl) (Nat.le_of_ble_eq_true rfl) dX21_init_258 (fun q_72 H hP hD hS => ?_)
  have hP := qh_frontP (o := (h0, .inr (26, fs_70))) (r := rt_71) (X := [(q_72, .inl (cI, 6, .inl (fun _ => 0)))]) hP
  have hD := qh_frontD (o := (h0, .inr (26, fs_70))) (r := rt_71) (X := [(q_72, .inl (cI, 6, .inl (fun _ => 0)))]) hD
  have hP : va_P (dC, dI) vwCl ((h0, .inr (26, fs_70)) :: (q_72, .inl (cI, 6, .inl (fun _ => 0))) :: rt_71 : va_W) H := hP
  have hD : va_D A ((h0, .inr (26, fs_70)) :: (q_72, .inl (cI, 6, .inl (fun _ => 0))) :: rt_71 : va_W) := hD
  refine va_putF (D := (dC, dI)) (fs := fs_70) (ci := 26) (v := .ref q_72) (ty := .array .int) (C := RX21) (T := TX21) (N := 95) hx hb hts qh_in21 tyX21 tyX21_ok nmX21 hown hK hP hD hS 0 rfl rfl 25 (by decide) (hts (.fieldLink RX21 93 "QueryHallModel" "rowCounts" "[I") (by decide +kernel)) (fun _ h9 => h9) rfl hin rfl (by decide +kernel) rfl rfl (by rw [hlfs_70]; decide) dX21_init_260 (fun H locs hP hD hS => ?_)
  have hP : va_P (dC, dI) vwCl ((h0, .inr (26, fs_70.set 25 (.ref q_72))) :: (q_72, .inl (cI, 6, .inl (fun _ => 0))) :: rt_71 : va_W) H := hP
  have hD : va_D A ((h0, .inr (26, fs_70.set 25 (.ref q_72))) :: (q_72, .inl (cI, 6, .inl (fun _ => 0))) :: rt_71 : va_W) := hD
  generalize hfs_73 : fs_70.set 25 (.ref q_72) = fs_73 at hP hD
  have hlfs_73 : fs_73.length = 95 := by rw [← hfs_73, List.length_set]; exact hlfs_70
  generalize hrt_74 : ((q_72, .inl (cI, 6, .inl (fun _ => 0))) :: rt_71 : va_W) = rt_74 at hP hD
  subst hrt_74
  subst hrt_71
  subst hrt_68
  subst hrt_65
  subst hrt_62
  subst hrt_59
  subst hrt_55
  clear hlfs_73
  clear hlfs_70
  clear hlfs_67
  clear hlfs_64
  clear hlfs_61
  clear hlfs_58
  clear hlfs_56
  clear hlfs_54
  subst hfs_73
  subst hfs_70
  subst hfs_67
  subst hfs_64
  subst hfs_61
  subst hfs_58
  subst hfs_56
  subst hfs_54
  have hP : va_P (dC, dI) vwCl ((h0, .inr (26, (((((((fs_0.set 17 (.ref q_53)).set 18 (.int 1)).set 20 (.ref q_57)).set 21 (.ref q_60)).set 22 (.ref q_63)).set 23 (.ref q_66)).set 24 (.ref q_69)).set 25 (.ref q_72))) :: (q_72, .inl (cI, 6, .inl (fun _ => 0))) :: (q_69, .inl (cZ, 36, .inl (fun _ => 0))) :: (q_66, .inl (cI, 36, .inl (fun _ => 0))) :: (q_63, .inl (cJ, 36, .inr (.inl (fun _ => 0)))) :: (q_60, .inl (cI, 6, .inl (fun _ => 0))) :: (q_57, .inl (cJ, 6, .inr (.inl (fun _ => 0)))) :: (q_53, .inl (cI, 4, .inl (fun _ => 0))) :: r0 : va_W) H := hP
  have hD : va_D A ((h0, .inr (26, (((((((fs_0.set 17 (.ref q_53)).set 18 (.int 1)).set 20 (.ref q_57)).set 21 (.ref q_60)).set 22 (.ref q_63)).set 23 (.ref q_66)).set 24 (.ref q_69)).set 25 (.ref q_72))) :: (q_72, .inl (cI, 6, .inl (fun _ => 0))) :: (q_69, .inl (cZ, 36, .inl (fun _ => 0))) :: (q_66, .inl (cI, 36, .inl (fun _ => 0))) :: (q_63, .inl (cJ, 36, .inr (.inl (fun _ => 0)))) :: (q_60, .inl (cI, 6, .inl (fun _ => 0))) :: (q_57, .inl (cJ, 6, .inr (.inl (fun _ => 0)))) :: (q_53, .inl (cI, 4, .inl (fun _ => 0))) :: r0 : va_W) := hD
  exact kk q_72 q_69 q_66 q_63 q_60 q_57 q_53 H locs hP hD hS
set_option maxHeartbeats 40000000 in
set_option maxRecDepth 100000 in
/-- the reference: QueryHallModel(), from 263 to 340 -/
theorem c_X21_init_263 {p : Program} {l : Launch} {e : Env} {s : State} {m : MethodId} {args : Array Value} {below : List Frame} {meth : Method} {c : Code} {H : Heap} {locs : List Loc} {Q : State → Prop} {A : Nat → Prop} {ls : Array Slot} (dC : Nat → ClassId) (dI : Nat → Nat → Nat) (cI cJ cB cZ cJJ cII cSt cLk : ClassId) (h0 ed ks vs n : Nat) (bf : Nat → Int32) (fs_0 : List Value) (hlfs_0 : fs_0.length = 95) (r0 : va_W) (hx : p.tables.exec = Jvm.exec) (hb : c.code = cX21_init) (hml : c.maxLocals = 7) (hts : ∀ w ∈ wsX21_init, w.before args s = true) (hown : s.vm.findClass RX21 = some m.cls) (hin : meth.name = "<init>") (hK : va_K (dC, dI) vwCl [(cI, .int), (cJ, .long), (cB, .byte), (cZ, .boolean), (cJJ, .array .long), (cII, .array .int), (cSt, .object RX20), (cLk, .object RX16)] s) (hA : ∀ q : Nat, s.heap.size ≤ q → A q) (hE0 : va_Z "java/util/ArrayList" "DEFAULTCAPACITY_EMPTY_ELEMENTDATA" "[Ljava/lang/Object;" (.ref ed) A s s.heap) (hE1 : va_AOA .long s) (hE2 : va_AOA .int s) (hE3 : va_AO RX20 s) (hE4 : va_AO RX16 s) (hE5 : vk_R RX21 240 "create table index on insert into values update set where delete from begin commit rollback number truth text not null select distinct left join group by having order desc or and is in true false count exists sum min max " ks s) (hE6 : va_Z "java/lang/String" "COMPACT_STRINGS" "Z" (.int 1) A s s.heap) (hE7 : va_OF "java/lang/String" "coder" "B" (.int 0) ks A s s.heap) (hE8 : va_OF "java/lang/String" "value" "[B" (.ref vs) ks A s s.heap) (hE9 : va_O "java/lang/String" ks A s s.heap) (hE10 : va_T .byte vs n (fun j => .int (bf j)) A s s.heap) (hE11 : va_Zq "jdk/internal/util/Preconditions" "SIOOBE_FORMATTER" "Ljava/util/function/BiFunction;" A s s.heap) (hl : lv_has ls 7 [(0, .ref h0)]) (hP : va_P (dC, dI) vwCl ((h0, .inr (26, fs_0)) :: r0 : va_W) H) (hD : va_D A ((h0, .inr (26, fs_0)) :: r0 : va_W)) (hS : va_S A s.heap H locs) (kk : ∀ (q_97 q_93 q_90 q_87 q_83 q_83_0 q_83_1 q_83_2 q_83_3 q_83_4 q_83_5 q_79 q_79_0 q_79_1 q_79_2 q_79_3 q_79_4 q_79_5 q_75 q_75_0 q_75_1 q_75_2 q_75_3 q_75_4 q_75_5 : Nat) (H : Heap) (locs : List Loc), va_P (dC, dI) vwCl ((h0, .inr (26, (((((((fs_0.set 26 (.ref q_75)).set 27 (.ref q_79)).set 28 (.ref q_83)).set 30 (.ref q_87)).set 31 (.ref q_90)).set 32 (.ref q_93)).set 35 (.int 1)).set 36 (.ref q_97))) :: (q_97, .inl (cI, 4001, .inl (fun _ => 0))) :: (q_93, .inl (cI, 6, .inl (fun _ => 0))) :: (q_90, .inl (cI, 6, .inl (fun _ => 0))) :: (q_87, .inl (cJ, 6, .inr (.inl (fun _ => 0)))) :: (q_83, .inl (cJJ, 6, .inr (.inr (.inr (.inr (fun i => [q_83_0, q_83_1, q_83_2, q_83_3, q_83_4, q_83_5][i]?)))))) :: (q_83_0, .inl (cJ, 384, .inr (.inl (fun _ => 0)))) :: (q_83_1, .inl (cJ, 384, .inr (.inl (fun _ => 0)))) :: (q_83_2, .inl (cJ, 384, .inr (.inl (fun _ => 0)))) :: (q_83_3, .inl (cJ, 384, .inr (.inl (fun _ => 0)))) :: (q_83_4, .inl (cJ, 384, .inr (.inl (fun _ => 0)))) :: (q_83_5, .inl (cJ, 384, .inr (.inl (fun _ => 0)))) :: (q_79, .inl (cJJ, 6, .inr (.inr (.inr (.inr (fun i => [q_79_0, q_79_1, q_79_2, q_79_3, q_79_4, q_79_5][i]?)))))) :: (q_79_0, .inl (cJ, 384, .inr (.inl (fun _ => 0)))) :: (q_79_1, .inl (cJ, 384, .inr (.inl (fun _ => 0)))) :: (q_79_2, .inl (cJ, 384, .inr (.inl (fun _ => 0)))) :: (q_79_3, .inl (cJ, 384, .inr (.inl (fun _ => 0)))) :: (q_79_4, .inl (cJ, 384, .inr (.inl (fun _ => 0)))) :: (q_79_5, .inl (cJ, 384, .inr (.inl (fun _ => 0)))) :: (q_75, .inl (cII, 6, .inr (.inr (.inr (.inr (fun i => [q_75_0, q_75_1, q_75_2, q_75_3, q_75_4, q_75_5][i]?)))))) :: (q_75_0, .inl (cI, 384, .inl (fun _ => 0))) :: (q_75_1, .inl (cI, 384, .inl (fun _ => 0))) :: (q_75_2, .inl (cI, 384, .inl (fun _ => 0))) :: (q_75_3, .inl (cI, 384, .inl (fun _ => 0))) :: (q_75_4, .inl (cI, 384, .inl (fun _ => 0))) :: (q_75_5, .inl (cI, 384, .inl (fun _ => 0))) :: r0 : va_W) H → va_D A ((h0, .inr (26, (((((((fs_0.set 26 (.ref q_75)).set 27 (.ref q_79)).set 28 (.ref q_83)).set 30 (.ref q_87)).set 31 (.ref q_90)).set 32 (.ref q_93)).set 35 (.int 1)).set 36 (.ref q_97))) :: (q_97, .inl (cI, 4001, .inl (fun _ => 0))) :: (q_93, .inl (cI, 6, .inl (fun _ => 0))) :: (q_90, .inl (cI, 6, .inl (fun _ => 0))) :: (q_87, .inl (cJ, 6, .inr (.inl (fun _ => 0)))) :: (q_83, .inl (cJJ, 6, .inr (.inr (.inr (.inr (fun i => [q_83_0, q_83_1, q_83_2, q_83_3, q_83_4, q_83_5][i]?)))))) :: (q_83_0, .inl (cJ, 384, .inr (.inl (fun _ => 0)))) :: (q_83_1, .inl (cJ, 384, .inr (.inl (fun _ => 0)))) :: (q_83_2, .inl (cJ, 384, .inr (.inl (fun _ => 0)))) :: (q_83_3, .inl (cJ, 384, .inr (.inl (fun _ => 0)))) :: (q_83_4, .inl (cJ, 384, .inr (.inl (fun _ => 0)))) :: (q_83_5, .inl (cJ, 384, .inr (.inl (fun _ => 0)))) :: (q_79, .inl (cJJ, 6, .inr (.inr (.inr (.inr (fun i => [q_79_0, q_79_1, q_79_2, q_79_3, q_79_4, q_79_5][i]?)))))) :: (q_79_0, .inl (cJ, 384, .inr (.inl (fun _ => 0)))) :: (q_79_1, .inl (cJ, 384, .inr (.inl (fun _ => 0)))) :: (q_79_2, .inl (cJ, 384, .inr (.inl (fun _ => 0)))) :: (q_79_3, .inl (cJ, 384, .inr (.inl (fun _ => 0)))) :: (q_79_4, .inl (cJ, 384, .inr (.inl (fun _ => 0)))) :: (q_79_5, .inl (cJ, 384, .inr (.inl (fun _ => 0)))) :: (q_75, .inl (cII, 6, .inr (.inr (.inr (.inr (fun i => [q_75_0, q_75_1, q_75_2, q_75_3, q_75_4, q_75_5][i]?)))))) :: (q_75_0, .inl (cI, 384, .inl (fun _ => 0))) :: (q_75_1, .inl (cI, 384, .inl (fun _ => 0))) :: (q_75_2, .inl (cI, 384, .inl (fun _ => 0))) :: (q_75_3, .inl (cI, 384, .inl (fun _ => 0))) :: (q_75_4, .inl (cI, 384, .inl (fun _ => 0))) :: (q_75_5, .inl (cI, 384, .inl (fun _ => 0))) :: r0 : va_W) → va_S A s.heap H locs → W p l e (headSpec wsX21_init { frames := 8, cells := 113, slots := 306930, locals := 300 }).room s m args below meth c H locs 64 56215 Q (F0 m 340 ls [])) : W p l e (headSpec wsX21_init { frames := 8, cells := 113, slots := 306930, locals := 300 }).room s m args below meth c H locs 39 45266 Q (F0 m 263 ls []) := by
  refine lv_aload_n hx hb dX21_init_263 rfl (lv_at hl 0 rfl) ?_
  refine lv_bipush (v := 6) hx hb dX21_init_264 (by decide) ?_
  refine lv_sipush (v := 384) hx hb dX21_init_266 (by decide) ?_
  refine qh_mna (own := RX21) (index := 32) (ty := .int) (cI := cI) (n := 6) (k := 384) (N' := 6) (K' := 384) (z := (384, .inl (fun _ => 0))) hx hb hown ((show ("[" ++ (FieldType.array .int).toString) = "[[I" by decide +kernel).symm ▸ hts (.classLink RX21 32 "[[I") (by decide +kernel)) hE2 (hts (.arrayClass .int) (by decide +kernel)) ((show (FieldType.array .int).toString = "[I" by decide +kernel) ▸ va_nm_int (hK.2 0 _ rfl).2) hK hP hD hS hA 5 rfl (by decide) (by decide) (by decide) (by decide) (by decide) (by decide) (by decide) rfl rfl (Nat.le_of_ble_eq_true rfl) (Nat.le_of_ble_eq_true rfl) (fun c => by show ({ cls := c, slots := Array.replicate 384 _, vm := .none } : Cell) = _; rw [arrV_new]; rfl) dX21_init_269 (fun q_75 r_76 H hP hD hS => ?_)
  rw [List.append_assoc] at hP hD
  have hP := qh_frontP (o := (h0, .inr (26, fs_0))) (r := r0) (X := [(q_75, .inl (cII, 6, .inr (.inr (.inr (.inr (fun i => if i < 6 then some (r_76 i) else none)))))), ((r_76 0), .inl (cI, 384, .inl (fun _ => 0))), ((r_76 1), .inl (cI, 384, .inl (fun _ => 0))), ((r_76 2), .inl (cI, 384, .inl (fun _ => 0))), ((r_76 3), .inl (cI, 384, .inl (fun _ => 0))), ((r_76 4), .inl (cI, 384, .inl (fun _ => 0))), ((r_76 5), .inl (cI, 384, .inl (fun _ => 0)))]) hP
  have hD := qh_frontD (o := (h0, .inr (26, fs_0))) (r := r0) (X := [(q_75, .inl (cII, 6, .inr (.inr (.inr (.inr (fun i => if i < 6 then some (r_76 i) else none)))))), ((r_76 0), .inl (cI, 384, .inl (fun _ => 0))), ((r_76 1), .inl (cI, 384, .inl (fun _ => 0))), ((r_76 2), .inl (cI, 384, .inl (fun _ => 0))), ((r_76 3), .inl (cI, 384, .inl (fun _ => 0))), ((r_76 4), .inl (cI, 384, .inl (fun _ => 0))), ((r_76 5), .inl (cI, 384, .inl (fun _ => 0)))]) hD
  have hP : va_P (dC, dI) vwCl ((h0, .inr (26, fs_0)) :: (q_75, .inl (cII, 6, .inr (.inr (.inr (.inr (fun i => if i < 6 then some (r_76 i) else none)))))) :: ((r_76 0), .inl (cI, 384, .inl (fun _ => 0))) :: ((r_76 1), .inl (cI, 384, .inl (fun _ => 0))) :: ((r_76 2), .inl (cI, 384, .inl (fun _ => 0))) :: ((r_76 3), .inl (cI, 384, .inl (fun _ => 0))) :: ((r_76 4), .inl (cI, 384, .inl (fun _ => 0))) :: ((r_76 5), .inl (cI, 384, .inl (fun _ => 0))) :: r0 : va_W) H := hP
  have hD : va_D A ((h0, .inr (26, fs_0)) :: (q_75, .inl (cII, 6, .inr (.inr (.inr (.inr (fun i => if i < 6 then some (r_76 i) else none)))))) :: ((r_76 0), .inl (cI, 384, .inl (fun _ => 0))) :: ((r_76 1), .inl (cI, 384, .inl (fun _ => 0))) :: ((r_76 2), .inl (cI, 384, .inl (fun _ => 0))) :: ((r_76 3), .inl (cI, 384, .inl (fun _ => 0))) :: ((r_76 4), .inl (cI, 384, .inl (fun _ => 0))) :: ((r_76 5), .inl (cI, 384, .inl (fun _ => 0))) :: r0 : va_W) := hD
  rw [qh_row6] at hP hD
  generalize r_76 0 = q_75_0 at hP hD
  generalize r_76 1 = q_75_1 at hP hD
  generalize r_76 2 = q_75_2 at hP hD
  generalize r_76 3 = q_75_3 at hP hD
  generalize r_76 4 = q_75_4 at hP hD
  generalize r_76 5 = q_75_5 at hP hD
  have hP : va_P (dC, dI) vwCl ((h0, .inr (26, fs_0)) :: (q_75, .inl (cII, 6, .inr (.inr (.inr (.inr (fun i => [q_75_0, q_75_1, q_75_2, q_75_3, q_75_4, q_75_5][i]?)))))) :: (q_75_0, .inl (cI, 384, .inl (fun _ => 0))) :: (q_75_1, .inl (cI, 384, .inl (fun _ => 0))) :: (q_75_2, .inl (cI, 384, .inl (fun _ => 0))) :: (q_75_3, .inl (cI, 384, .inl (fun _ => 0))) :: (q_75_4, .inl (cI, 384, .inl (fun _ => 0))) :: (q_75_5, .inl (cI, 384, .inl (fun _ => 0))) :: r0 : va_W) H := hP
  have hD : va_D A ((h0, .inr (26, fs_0)) :: (q_75, .inl (cII, 6, .inr (.inr (.inr (.inr (fun i => [q_75_0, q_75_1, q_75_2, q_75_3, q_75_4, q_75_5][i]?)))))) :: (q_75_0, .inl (cI, 384, .inl (fun _ => 0))) :: (q_75_1, .inl (cI, 384, .inl (fun _ => 0))) :: (q_75_2, .inl (cI, 384, .inl (fun _ => 0))) :: (q_75_3, .inl (cI, 384, .inl (fun _ => 0))) :: (q_75_4, .inl (cI, 384, .inl (fun _ => 0))) :: (q_75_5, .inl (cI, 384, .inl (fun _ => 0))) :: r0 : va_W) := hD
  refine va_putF (D := (dC, dI)) (fs := fs_0) (ci := 26) (v := .ref q_75) (ty := .array (.array .int)) (C := RX21) (T := TX21) (N := 95) hx hb hts qh_in21 tyX21 tyX21_ok nmX21 hown hK hP hD hS 0 rfl rfl 26 (by decide) (hts (.fieldLink RX21 96 "QueryHallModel" "kinds" "[[I") (by decide +kernel)) (fun _ h9 => h9) rfl hin rfl (by decide +kernel) rfl rfl (by rw [hlfs_0]; decide) dX21_init_273 (fun H locs hP hD hS => ?_)
  have hP : va_P (dC, dI) vwCl ((h0, .inr (26, fs_0.set 26 (.ref q_75))) :: (q_75, .inl (cII, 6, .inr (.inr (.inr (.inr (fun i => [q_75_0, q_75_1, q_75_2, q_75_3, q_75_4, q_75_5][i]?)))))) :: (q_75_0, .inl (cI, 384, .inl (fun _ => 0))) :: (q_75_1, .inl (cI, 384, .inl (fun _ => 0))) :: (q_75_2, .inl (cI, 384, .inl (fun _ => 0))) :: (q_75_3, .inl (cI, 384, .inl (fun _ => 0))) :: (q_75_4, .inl (cI, 384, .inl (fun _ => 0))) :: (q_75_5, .inl (cI, 384, .inl (fun _ => 0))) :: r0 : va_W) H := hP
  have hD : va_D A ((h0, .inr (26, fs_0.set 26 (.ref q_75))) :: (q_75, .inl (cII, 6, .inr (.inr (.inr (.inr (fun i => [q_75_0, q_75_1, q_75_2, q_75_3, q_75_4, q_75_5][i]?)))))) :: (q_75_0, .inl (cI, 384, .inl (fun _ => 0))) :: (q_75_1, .inl (cI, 384, .inl (fun _ => 0))) :: (q_75_2, .inl (cI, 384, .inl (fun _ => 0))) :: (q_75_3, .inl (cI, 384, .inl (fun _ => 0))) :: (q_75_4, .inl (cI, 384, .inl (fun _ => 0))) :: (q_75_5, .inl (cI, 384, .inl (fun _ => 0))) :: r0 : va_W) := hD
  generalize hfs_77 : fs_0.set 26 (.ref q_75) = fs_77 at hP hD
  have hlfs_77 : fs_77.length = 95 := by rw [← hfs_77, List.length_set]; exact hlfs_0
  generalize hrt_78 : ((q_75, .inl (cII, 6, .inr (.inr (.inr (.inr (fun i => [q_75_0, q_75_1, q_75_2, q_75_3, q_75_4, q_75_5][i]?)))))) :: (q_75_0, .inl (cI, 384, .inl (fun _ => 0))) :: (q_75_1, .inl (cI, 384, .inl (fun _ => 0))) :: (q_75_2, .inl (cI, 384, .inl (fun _ => 0))) :: (q_75_3, .inl (cI, 384, .inl (fun _ => 0))) :: (q_75_4, .inl (cI, 384, .inl (fun _ => 0))) :: (q_75_5, .inl (cI, 384, .inl (fun _ => 0))) :: r0 : va_W) = rt_78 at hP hD
  refine lv_aload_n hx hb dX21_init_276 rfl (lv_at hl 0 rfl) ?_
  refine lv_bipush (v := 6) hx hb dX21_init_277 (by decide) ?_
  refine lv_sipush (v := 384) hx hb dX21_init_279 (by decide) ?_
  refine qh_mna (own := RX21) (index := 37) (ty := .long) (cI := cJ) (n := 6) (k := 384) (N' := 6) (K' := 384) (z := (384, .inr (.inl (fun _ => 0)))) hx hb hown ((show ("[" ++ (FieldType.array .long).toString) = "[[J" by decide +kernel).symm ▸ hts (.classLink RX21 37 "[[J") (by decide +kernel)) hE1 (hts (.arrayClass .long) (by decide +kernel)) ((show (FieldType.array .long).toString = "[J" by decide +kernel) ▸ va_nm_long (hK.2 1 _ rfl).2) hK hP hD hS hA 4 rfl (by decide) (by decide) (by decide) (by decide) (by decide) (by decide) (by decide) rfl rfl (Nat.le_of_ble_eq_true rfl) (Nat.le_of_ble_eq_true rfl) (fun c => by show ({ cls := c, slots := Array.replicate 384 _, vm := .none } : Cell) = _; rw [arrV_new]; rfl) dX21_init_282 (fun q_79 r_80 H hP hD hS => ?_)
  rw [List.append_assoc] at hP hD
  have hP := qh_frontP (o := (h0, .inr (26, fs_77))) (r := rt_78) (X := [(q_79, .inl (cJJ, 6, .inr (.inr (.inr (.inr (fun i => if i < 6 then some (r_80 i) else none)))))), ((r_80 0), .inl (cJ, 384, .inr (.inl (fun _ => 0)))), ((r_80 1), .inl (cJ, 384, .inr (.inl (fun _ => 0)))), ((r_80 2), .inl (cJ, 384, .inr (.inl (fun _ => 0)))), ((r_80 3), .inl (cJ, 384, .inr (.inl (fun _ => 0)))), ((r_80 4), .inl (cJ, 384, .inr (.inl (fun _ => 0)))), ((r_80 5), .inl (cJ, 384, .inr (.inl (fun _ => 0))))]) hP
  have hD := qh_frontD (o := (h0, .inr (26, fs_77))) (r := rt_78) (X := [(q_79, .inl (cJJ, 6, .inr (.inr (.inr (.inr (fun i => if i < 6 then some (r_80 i) else none)))))), ((r_80 0), .inl (cJ, 384, .inr (.inl (fun _ => 0)))), ((r_80 1), .inl (cJ, 384, .inr (.inl (fun _ => 0)))), ((r_80 2), .inl (cJ, 384, .inr (.inl (fun _ => 0)))), ((r_80 3), .inl (cJ, 384, .inr (.inl (fun _ => 0)))), ((r_80 4), .inl (cJ, 384, .inr (.inl (fun _ => 0)))), ((r_80 5), .inl (cJ, 384, .inr (.inl (fun _ => 0))))]) hD
  have hP : va_P (dC, dI) vwCl ((h0, .inr (26, fs_77)) :: (q_79, .inl (cJJ, 6, .inr (.inr (.inr (.inr (fun i => if i < 6 then some (r_80 i) else none)))))) :: ((r_80 0), .inl (cJ, 384, .inr (.inl (fun _ => 0)))) :: ((r_80 1), .inl (cJ, 384, .inr (.inl (fun _ => 0)))) :: ((r_80 2), .inl (cJ, 384, .inr (.inl (fun _ => 0)))) :: ((r_80 3), .inl (cJ, 384, .inr (.inl (fun _ => 0)))) :: ((r_80 4), .inl (cJ, 384, .inr (.inl (fun _ => 0)))) :: ((r_80 5), .inl (cJ, 384, .inr (.inl (fun _ => 0)))) :: rt_78 : va_W) H := hP
  have hD : va_D A ((h0, .inr (26, fs_77)) :: (q_79, .inl (cJJ, 6, .inr (.inr (.inr (.inr (fun i => if i < 6 then some (r_80 i) else none)))))) :: ((r_80 0), .inl (cJ, 384, .inr (.inl (fun _ => 0)))) :: ((r_80 1), .inl (cJ, 384, .inr (.inl (fun _ => 0)))) :: ((r_80 2), .inl (cJ, 384, .inr (.inl (fun _ => 0)))) :: ((r_80 3), .inl (cJ, 384, .inr (.inl (fun _ => 0)))) :: ((r_80 4), .inl (cJ, 384, .inr (.inl (fun _ => 0)))) :: ((r_80 5), .inl (cJ, 384, .inr (.inl (fun _ => 0)))) :: rt_78 : va_W) := hD
  rw [qh_row6] at hP hD
  generalize r_80 0 = q_79_0 at hP hD
  generalize r_80 1 = q_79_1 at hP hD
  generalize r_80 2 = q_79_2 at hP hD
  generalize r_80 3 = q_79_3 at hP hD
  generalize r_80 4 = q_79_4 at hP hD
  generalize r_80 5 = q_79_5 at hP hD
  have hP : va_P (dC, dI) vwCl ((h0, .inr (26, fs_77)) :: (q_79, .inl (cJJ, 6, .inr (.inr (.inr (.inr (fun i => [q_79_0, q_79_1, q_79_2, q_79_3, q_79_4, q_79_5][i]?)))))) :: (q_79_0, .inl (cJ, 384, .inr (.inl (fun _ => 0)))) :: (q_79_1, .inl (cJ, 384, .inr (.inl (fun _ => 0)))) :: (q_79_2, .inl (cJ, 384, .inr (.inl (fun _ => 0)))) :: (q_79_3, .inl (cJ, 384, .inr (.inl (fun _ => 0)))) :: (q_79_4, .inl (cJ, 384, .inr (.inl (fun _ => 0)))) :: (q_79_5, .inl (cJ, 384, .inr (.inl (fun _ => 0)))) :: rt_78 : va_W) H := hP
  have hD : va_D A ((h0, .inr (26, fs_77)) :: (q_79, .inl (cJJ, 6, .inr (.inr (.inr (.inr (fun i => [q_79_0, q_79_1, q_79_2, q_79_3, q_79_4, q_79_5][i]?)))))) :: (q_79_0, .inl (cJ, 384, .inr (.inl (fun _ => 0)))) :: (q_79_1, .inl (cJ, 384, .inr (.inl (fun _ => 0)))) :: (q_79_2, .inl (cJ, 384, .inr (.inl (fun _ => 0)))) :: (q_79_3, .inl (cJ, 384, .inr (.inl (fun _ => 0)))) :: (q_79_4, .inl (cJ, 384, .inr (.inl (fun _ => 0)))) :: (q_79_5, .inl (cJ, 384, .inr (.inl (fun _ => 0)))) :: rt_78 : va_W) := hD
  refine va_putF (D := (dC, dI)) (fs := fs_77) (ci := 26) (v := .ref q_79) (ty := .array (.array .long)) (C := RX21) (T := TX21) (N := 95) hx hb hts qh_in21 tyX21 tyX21_ok nmX21 hown hK hP hD hS 0 rfl rfl 27 (by decide) (hts (.fieldLink RX21 99 "QueryHallModel" "highs" "[[J") (by decide +kernel)) (fun _ h9 => h9) rfl hin rfl (by decide +kernel) rfl rfl (by rw [hlfs_77]; decide) dX21_init_286 (fun H locs hP hD hS => ?_)
  have hP : va_P (dC, dI) vwCl ((h0, .inr (26, fs_77.set 27 (.ref q_79))) :: (q_79, .inl (cJJ, 6, .inr (.inr (.inr (.inr (fun i => [q_79_0, q_79_1, q_79_2, q_79_3, q_79_4, q_79_5][i]?)))))) :: (q_79_0, .inl (cJ, 384, .inr (.inl (fun _ => 0)))) :: (q_79_1, .inl (cJ, 384, .inr (.inl (fun _ => 0)))) :: (q_79_2, .inl (cJ, 384, .inr (.inl (fun _ => 0)))) :: (q_79_3, .inl (cJ, 384, .inr (.inl (fun _ => 0)))) :: (q_79_4, .inl (cJ, 384, .inr (.inl (fun _ => 0)))) :: (q_79_5, .inl (cJ, 384, .inr (.inl (fun _ => 0)))) :: rt_78 : va_W) H := hP
  have hD : va_D A ((h0, .inr (26, fs_77.set 27 (.ref q_79))) :: (q_79, .inl (cJJ, 6, .inr (.inr (.inr (.inr (fun i => [q_79_0, q_79_1, q_79_2, q_79_3, q_79_4, q_79_5][i]?)))))) :: (q_79_0, .inl (cJ, 384, .inr (.inl (fun _ => 0)))) :: (q_79_1, .inl (cJ, 384, .inr (.inl (fun _ => 0)))) :: (q_79_2, .inl (cJ, 384, .inr (.inl (fun _ => 0)))) :: (q_79_3, .inl (cJ, 384, .inr (.inl (fun _ => 0)))) :: (q_79_4, .inl (cJ, 384, .inr (.inl (fun _ => 0)))) :: (q_79_5, .inl (cJ, 384, .inr (.inl (fun _ => 0)))) :: rt_78 : va_W) := hD
  generalize hfs_81 : fs_77.set 27 (.ref q_79) = fs_81 at hP hD
  have hlfs_81 : fs_81.length = 95 := by rw [← hfs_81, List.length_set]; exact hlfs_77
  generalize hrt_82 : ((q_79, .inl (cJJ, 6, .inr (.inr (.inr (.inr (fun i => [q_79_0, q_79_1, q_79_2, q_79_3, q_79_4, q_79_5][i]?)))))) :: (q_79_0, .inl (cJ, 384, .inr (.inl (fun _ => 0)))) :: (q_79_1, .inl (cJ, 384, .inr (.inl (fun _ => 0)))) :: (q_79_2, .inl (cJ, 384, .inr (.inl (fun _ => 0)))) :: (q_79_3, .inl (cJ, 384, .inr (.inl (fun _ => 0)))) :: (q_79_4, .inl (cJ, 384, .inr (.inl (fun _ => 0)))) :: (q_79_5, .inl (cJ, 384, .inr (.inl (fun _ => 0)))) :: rt_78 : va_W) = rt_82 at hP hD
  refine lv_aload_n hx hb dX21_init_289 rfl (lv_at hl 0 rfl) ?_
  refine lv_bipush (v := 6) hx hb dX21_init_290 (by decide) ?_
  refine lv_sipush (v := 384) hx hb dX21_init_292 (by decide) ?_
  refine qh_mna (own := RX21) (index := 37) (ty := .long) (cI := cJ) (n := 6) (k := 384) (N' := 6) (K' := 384) (z := (384, .inr (.inl (fun _ => 0)))) hx hb hown ((show ("[" ++ (FieldType.array .long).toString) = "[[J" by decide +kernel).symm ▸ hts (.classLink RX21 37 "[[J") (by decide +kernel)) hE1 (hts (.arrayClass .long) (by decide +kernel)) ((show (FieldType.array .long).toString = "[J" by decide +kernel) ▸ va_nm_long (hK.2 1 _ rfl).2) hK hP hD hS hA 4 rfl (by decide) (by decide) (by decide) (by decide) (by decide) (by decide) (by decide) rfl rfl (Nat.le_of_ble_eq_true rfl) (Nat.le_of_ble_eq_true rfl) (fun c => by show ({ cls := c, slots := Array.replicate 384 _, vm := .none } : Cell) = _; rw [arrV_new]; rfl) dX21_init_295 (fun q_83 r_84 H hP hD hS => ?_)
  rw [List.append_assoc] at hP hD
  have hP := qh_frontP (o := (h0, .inr (26, fs_81))) (r := rt_82) (X := [(q_83, .inl (cJJ, 6, .inr (.inr (.inr (.inr (fun i => if i < 6 then some (r_84 i) else none)))))), ((r_84 0), .inl (cJ, 384, .inr (.inl (fun _ => 0)))), ((r_84 1), .inl (cJ, 384, .inr (.inl (fun _ => 0)))), ((r_84 2), .inl (cJ, 384, .inr (.inl (fun _ => 0)))), ((r_84 3), .inl (cJ, 384, .inr (.inl (fun _ => 0)))), ((r_84 4), .inl (cJ, 384, .inr (.inl (fun _ => 0)))), ((r_84 5), .inl (cJ, 384, .inr (.inl (fun _ => 0))))]) hP
  have hD := qh_frontD (o := (h0, .inr (26, fs_81))) (r := rt_82) (X := [(q_83, .inl (cJJ, 6, .inr (.inr (.inr (.inr (fun i => if i < 6 then some (r_84 i) else none)))))), ((r_84 0), .inl (cJ, 384, .inr (.inl (fun _ => 0)))), ((r_84 1), .inl (cJ, 384, .inr (.inl (fun _ => 0)))), ((r_84 2), .inl (cJ, 384, .inr (.inl (fun _ => 0)))), ((r_84 3), .inl (cJ, 384, .inr (.inl (fun _ => 0)))), ((r_84 4), .inl (cJ, 384, .inr (.inl (fun _ => 0)))), ((r_84 5), .inl (cJ, 384, .inr (.inl (fun _ => 0))))]) hD
  have hP : va_P (dC, dI) vwCl ((h0, .inr (26, fs_81)) :: (q_83, .inl (cJJ, 6, .inr (.inr (.inr (.inr (fun i => if i < 6 then some (r_84 i) else none)))))) :: ((r_84 0), .inl (cJ, 384, .inr (.inl (fun _ => 0)))) :: ((r_84 1), .inl (cJ, 384, .inr (.inl (fun _ => 0)))) :: ((r_84 2), .inl (cJ, 384, .inr (.inl (fun _ => 0)))) :: ((r_84 3), .inl (cJ, 384, .inr (.inl (fun _ => 0)))) :: ((r_84 4), .inl (cJ, 384, .inr (.inl (fun _ => 0)))) :: ((r_84 5), .inl (cJ, 384, .inr (.inl (fun _ => 0)))) :: rt_82 : va_W) H := hP
  have hD : va_D A ((h0, .inr (26, fs_81)) :: (q_83, .inl (cJJ, 6, .inr (.inr (.inr (.inr (fun i => if i < 6 then some (r_84 i) else none)))))) :: ((r_84 0), .inl (cJ, 384, .inr (.inl (fun _ => 0)))) :: ((r_84 1), .inl (cJ, 384, .inr (.inl (fun _ => 0)))) :: ((r_84 2), .inl (cJ, 384, .inr (.inl (fun _ => 0)))) :: ((r_84 3), .inl (cJ, 384, .inr (.inl (fun _ => 0)))) :: ((r_84 4), .inl (cJ, 384, .inr (.inl (fun _ => 0)))) :: ((r_84 5), .inl (cJ, 384, .inr (.inl (fun _ => 0)))) :: rt_82 : va_W) := hD
  rw [qh_row6] at hP hD
  generalize r_84 0 = q_83_0 at hP hD
  generalize r_84 1 = q_83_1 at hP hD
  generalize r_84 2 = q_83_2 at hP hD
  generalize r_84 3 = q_83_3 at hP hD
  generalize r_84 4 = q_83_4 at hP hD
  generalize r_84 5 = q_83_5 at hP hD
  have hP : va_P (dC, dI) vwCl ((h0, .inr (26, fs_81)) :: (q_83, .inl (cJJ, 6, .inr (.inr (.inr (.inr (fun i => [q_83_0, q_83_1, q_83_2, q_83_3, q_83_4, q_83_5][i]?)))))) :: (q_83_0, .inl (cJ, 384, .inr (.inl (fun _ => 0)))) :: (q_83_1, .inl (cJ, 384, .inr (.inl (fun _ => 0)))) :: (q_83_2, .inl (cJ, 384, .inr (.inl (fun _ => 0)))) :: (q_83_3, .inl (cJ, 384, .inr (.inl (fun _ => 0)))) :: (q_83_4, .inl (cJ, 384, .inr (.inl (fun _ => 0)))) :: (q_83_5, .inl (cJ, 384, .inr (.inl (fun _ => 0)))) :: rt_82 : va_W) H := hP
  have hD : va_D A ((h0, .inr (26, fs_81)) :: (q_83, .inl (cJJ, 6, .inr (.inr (.inr (.inr (fun i => [q_83_0, q_83_1, q_83_2, q_83_3, q_83_4, q_83_5][i]?)))))) :: (q_83_0, .inl (cJ, 384, .inr (.inl (fun _ => 0)))) :: (q_83_1, .inl (cJ, 384, .inr (.inl (fun _ => 0)))) :: (q_83_2, .inl (cJ, 384, .inr (.inl (fun _ => 0)))) :: (q_83_3, .inl (cJ, 384, .inr (.inl (fun _ => 0)))) :: (q_83_4, .inl (cJ, 384, .inr (.inl (fun _ => 0)))) :: (q_83_5, .inl (cJ, 384, .inr (.inl (fun _ => 0)))) :: rt_82 : va_W) := hD
  refine va_putF (D := (dC, dI)) (fs := fs_81) (ci := 26) (v := .ref q_83) (ty := .array (.array .long)) (C := RX21) (T := TX21) (N := 95) hx hb hts qh_in21 tyX21 tyX21_ok nmX21 hown hK hP hD hS 0 rfl rfl 28 (by decide) (hts (.fieldLink RX21 102 "QueryHallModel" "lows" "[[J") (by decide +kernel)) (fun _ h9 => h9) rfl hin rfl (by decide +kernel) rfl rfl (by rw [hlfs_81]; decide) dX21_init_299 (fun H locs hP hD hS => ?_)
  have hP : va_P (dC, dI) vwCl ((h0, .inr (26, fs_81.set 28 (.ref q_83))) :: (q_83, .inl (cJJ, 6, .inr (.inr (.inr (.inr (fun i => [q_83_0, q_83_1, q_83_2, q_83_3, q_83_4, q_83_5][i]?)))))) :: (q_83_0, .inl (cJ, 384, .inr (.inl (fun _ => 0)))) :: (q_83_1, .inl (cJ, 384, .inr (.inl (fun _ => 0)))) :: (q_83_2, .inl (cJ, 384, .inr (.inl (fun _ => 0)))) :: (q_83_3, .inl (cJ, 384, .inr (.inl (fun _ => 0)))) :: (q_83_4, .inl (cJ, 384, .inr (.inl (fun _ => 0)))) :: (q_83_5, .inl (cJ, 384, .inr (.inl (fun _ => 0)))) :: rt_82 : va_W) H := hP
  have hD : va_D A ((h0, .inr (26, fs_81.set 28 (.ref q_83))) :: (q_83, .inl (cJJ, 6, .inr (.inr (.inr (.inr (fun i => [q_83_0, q_83_1, q_83_2, q_83_3, q_83_4, q_83_5][i]?)))))) :: (q_83_0, .inl (cJ, 384, .inr (.inl (fun _ => 0)))) :: (q_83_1, .inl (cJ, 384, .inr (.inl (fun _ => 0)))) :: (q_83_2, .inl (cJ, 384, .inr (.inl (fun _ => 0)))) :: (q_83_3, .inl (cJ, 384, .inr (.inl (fun _ => 0)))) :: (q_83_4, .inl (cJ, 384, .inr (.inl (fun _ => 0)))) :: (q_83_5, .inl (cJ, 384, .inr (.inl (fun _ => 0)))) :: rt_82 : va_W) := hD
  generalize hfs_85 : fs_81.set 28 (.ref q_83) = fs_85 at hP hD
  have hlfs_85 : fs_85.length = 95 := by rw [← hfs_85, List.length_set]; exact hlfs_81
  generalize hrt_86 : ((q_83, .inl (cJJ, 6, .inr (.inr (.inr (.inr (fun i => [q_83_0, q_83_1, q_83_2, q_83_3, q_83_4, q_83_5][i]?)))))) :: (q_83_0, .inl (cJ, 384, .inr (.inl (fun _ => 0)))) :: (q_83_1, .inl (cJ, 384, .inr (.inl (fun _ => 0)))) :: (q_83_2, .inl (cJ, 384, .inr (.inl (fun _ => 0)))) :: (q_83_3, .inl (cJ, 384, .inr (.inl (fun _ => 0)))) :: (q_83_4, .inl (cJ, 384, .inr (.inl (fun _ => 0)))) :: (q_83_5, .inl (cJ, 384, .inr (.inl (fun _ => 0)))) :: rt_82 : va_W) = rt_86 at hP hD
  refine lv_aload_n hx hb dX21_init_302 rfl (lv_at hl 0 rfl) ?_
  refine lv_bipush (v := 6) hx hb dX21_init_303 (by decide) ?_
  refine qh_newa (atype := .long) (ty := .long) (n := 6) (N' := 6) (a0 := (6, .inr (.inl (fun _ => 0)))) hx hb (hts (.arrayClass .long) (by decide +kernel)) rfl hK hP hD hS hA 1 rfl (qh_al 6) (by decide) (by decide) (by decide) (Nat.le_of_ble_eq_true rfl) (Nat.le_of_ble_eq_true rfl) dX21_init_305 (fun q_87 H hP hD hS => ?_)
  have hP := qh_frontP (o := (h0, .inr (26, fs_85))) (r := rt_86) (X := [(q_87, .inl (cJ, 6, .inr (.inl (fun _ => 0))))]) hP
  have hD := qh_frontD (o := (h0, .inr (26, fs_85))) (r := rt_86) (X := [(q_87, .inl (cJ, 6, .inr (.inl (fun _ => 0))))]) hD
  have hP : va_P (dC, dI) vwCl ((h0, .inr (26, fs_85)) :: (q_87, .inl (cJ, 6, .inr (.inl (fun _ => 0)))) :: rt_86 : va_W) H := hP
  have hD : va_D A ((h0, .inr (26, fs_85)) :: (q_87, .inl (cJ, 6, .inr (.inl (fun _ => 0)))) :: rt_86 : va_W) := hD
  refine va_putF (D := (dC, dI)) (fs := fs_85) (ci := 26) (v := .ref q_87) (ty := .array .long) (C := RX21) (T := TX21) (N := 95) hx hb hts qh_in21 tyX21 tyX21_ok nmX21 hown hK hP hD hS 0 rfl rfl 30 (by decide) (hts (.fieldLink RX21 105 "QueryHallModel" "indexNames" "[J") (by decide +kernel)) (fun _ h9 => h9) rfl hin rfl (by decide +kernel) rfl rfl (by rw [hlfs_85]; decide) dX21_init_307 (fun H locs hP hD hS => ?_)
  have hP : va_P (dC, dI) vwCl ((h0, .inr (26, fs_85.set 30 (.ref q_87))) :: (q_87, .inl (cJ, 6, .inr (.inl (fun _ => 0)))) :: rt_86 : va_W) H := hP
  have hD : va_D A ((h0, .inr (26, fs_85.set 30 (.ref q_87))) :: (q_87, .inl (cJ, 6, .inr (.inl (fun _ => 0)))) :: rt_86 : va_W) := hD
  generalize hfs_88 : fs_85.set 30 (.ref q_87) = fs_88 at hP hD
  have hlfs_88 : fs_88.length = 95 := by rw [← hfs_88, List.length_set]; exact hlfs_85
  generalize hrt_89 : ((q_87, .inl (cJ, 6, .inr (.inl (fun _ => 0)))) :: rt_86 : va_W) = rt_89 at hP hD
  refine lv_aload_n hx hb dX21_init_310 rfl (lv_at hl 0 rfl) ?_
  refine lv_bipush (v := 6) hx hb dX21_init_311 (by decide) ?_
  refine qh_newa (atype := .int) (ty := .int) (n := 6) (N' := 6) (a0 := (6, .inl (fun _ => 0))) hx hb (hts (.arrayClass .int) (by decide +kernel)) rfl hK hP hD hS hA 0 rfl (qh_ai .int 6 rfl) (by decide) (by decide) (by decide) (Nat.le_of_ble_eq_true rfl) (Nat.le_of_ble_eq_true rfl) dX21_init_313 (fun q_90 H hP hD hS => ?_)
  have hP := qh_frontP (o := (h0, .inr (26, fs_88))) (r := rt_89) (X := [(q_90, .inl (cI, 6, .inl (fun _ => 0)))]) hP
  have hD := qh_frontD (o := (h0, .inr (26, fs_88))) (r := rt_89) (X := [(q_90, .inl (cI, 6, .inl (fun _ => 0)))]) hD
  have hP : va_P (dC, dI) vwCl ((h0, .inr (26, fs_88)) :: (q_90, .inl (cI, 6, .inl (fun _ => 0))) :: rt_89 : va_W) H := hP
  have hD : va_D A ((h0, .inr (26, fs_88)) :: (q_90, .inl (cI, 6, .inl (fun _ => 0))) :: rt_89 : va_W) := hD
  refine va_putF (D := (dC, dI)) (fs := fs_88) (ci := 26) (v := .ref q_90) (ty := .array .int) (C := RX21) (T := TX21) (N := 95) hx hb hts qh_in21 tyX21 tyX21_ok nmX21 hown hK hP hD hS 0 rfl rfl 31 (by decide) (hts (.fieldLink RX21 108 "QueryHallModel" "indexTables" "[I") (by decide +kernel)) (fun _ h9 => h9) rfl hin rfl (by decide +kernel) rfl rfl (by rw [hlfs_88]; decide) dX21_init_315 (fun H locs hP hD hS => ?_)
  have hP : va_P (dC, dI) vwCl ((h0, .inr (26, fs_88.set 31 (.ref q_90))) :: (q_90, .inl (cI, 6, .inl (fun _ => 0))) :: rt_89 : va_W) H := hP
  have hD : va_D A ((h0, .inr (26, fs_88.set 31 (.ref q_90))) :: (q_90, .inl (cI, 6, .inl (fun _ => 0))) :: rt_89 : va_W) := hD
  generalize hfs_91 : fs_88.set 31 (.ref q_90) = fs_91 at hP hD
  have hlfs_91 : fs_91.length = 95 := by rw [← hfs_91, List.length_set]; exact hlfs_88
  generalize hrt_92 : ((q_90, .inl (cI, 6, .inl (fun _ => 0))) :: rt_89 : va_W) = rt_92 at hP hD
  refine lv_aload_n hx hb dX21_init_318 rfl (lv_at hl 0 rfl) ?_
  refine lv_bipush (v := 6) hx hb dX21_init_319 (by decide) ?_
  refine qh_newa (atype := .int) (ty := .int) (n := 6) (N' := 6) (a0 := (6, .inl (fun _ => 0))) hx hb (hts (.arrayClass .int) (by decide +kernel)) rfl hK hP hD hS hA 0 rfl (qh_ai .int 6 rfl) (by decide) (by decide) (by decide) (Nat.le_of_ble_eq_true rfl) (Nat.le_of_ble_eq_true rfl) dX21_init_321 (fun q_93 H hP hD hS => ?_)
  have hP := qh_frontP (o := (h0, .inr (26, fs_91))) (r := rt_92) (X := [(q_93, .inl (cI, 6, .inl (fun _ => 0)))]) hP
  have hD := qh_frontD (o := (h0, .inr (26, fs_91))) (r := rt_92) (X := [(q_93, .inl (cI, 6, .inl (fun _ => 0)))]) hD
  have hP : va_P (dC, dI) vwCl ((h0, .inr (26, fs_91)) :: (q_93, .inl (cI, 6, .inl (fun _ => 0))) :: rt_92 : va_W) H := hP
  have hD : va_D A ((h0, .inr (26, fs_91)) :: (q_93, .inl (cI, 6, .inl (fun _ => 0))) :: rt_92 : va_W) := hD
  refine va_putF (D := (dC, dI)) (fs := fs_91) (ci := 26) (v := .ref q_93) (ty := .array .int) (C := RX21) (T := TX21) (N := 95) hx hb hts qh_in21 tyX21 tyX21_ok nmX21 hown hK hP hD hS 0 rfl rfl 32 (by decide) (hts (.fieldLink RX21 111 "QueryHallModel" "indexColumns" "[I") (by decide +kernel)) (fun _ h9 => h9) rfl hin rfl (by decide +kernel) rfl rfl (by rw [hlfs_91]; decide) dX21_init_323 (fun H locs hP hD hS => ?_)
  have hP : va_P (dC, dI) vwCl ((h0, .inr (26, fs_91.set 32 (.ref q_93))) :: (q_93, .inl (cI, 6, .inl (fun _ => 0))) :: rt_92 : va_W) H := hP
  have hD : va_D A ((h0, .inr (26, fs_91.set 32 (.ref q_93))) :: (q_93, .inl (cI, 6, .inl (fun _ => 0))) :: rt_92 : va_W) := hD
  generalize hfs_94 : fs_91.set 32 (.ref q_93) = fs_94 at hP hD
  have hlfs_94 : fs_94.length = 95 := by rw [← hfs_94, List.length_set]; exact hlfs_91
  generalize hrt_95 : ((q_93, .inl (cI, 6, .inl (fun _ => 0))) :: rt_92 : va_W) = rt_95 at hP hD
  refine lv_aload_n hx hb dX21_init_326 rfl (lv_at hl 0 rfl) ?_
  refine lv_iconst (v := 1) hx hb dX21_init_327 (by decide) ?_
  refine va_put (D := (dC, dI)) (fs := fs_94) (ci := 26) (v := .int 1) (ty := .int) (C := RX21) (T := TX21) (N := 95) hx hb hts qh_in21 tyX21 tyX21_ok nmX21 hown hK hP hD hS 0 rfl rfl 35 (by decide) (hts (.fieldLink RX21 114 "QueryHallModel" "first" "I") (by decide +kernel)) (fun _ h9 => h9) rfl (by decide +kernel) rfl rfl (by rw [hlfs_94]; decide) dX21_init_328 (fun H locs hP hD hS => ?_)
  have hP : va_P (dC, dI) vwCl ((h0, .inr (26, fs_94.set 35 (.int 1))) :: rt_95 : va_W) H := hP
  have hD : va_D A ((h0, .inr (26, fs_94.set 35 (.int 1))) :: rt_95 : va_W) := hD
  generalize hfs_96 : fs_94.set 35 (.int 1) = fs_96 at hP hD
  have hlfs_96 : fs_96.length = 95 := by rw [← hfs_96, List.length_set]; exact hlfs_94
  refine lv_aload_n hx hb dX21_init_331 rfl (lv_at hl 0 rfl) ?_
  refine lv_sipush (v := 4001) hx hb dX21_init_332 (by decide) ?_
  refine qh_newa (atype := .int) (ty := .int) (n := 4001) (N' := 4001) (a0 := (4001, .inl (fun _ => 0))) hx hb (hts (.arrayClass .int) (by decide +kernel)) rfl hK hP hD hS hA 0 rfl (qh_ai .int 4001 rfl) (by decide) (by decide) (by decide) (Nat.le_of_ble_eq_true rfl) (Nat.le_of_ble_eq_true rfl) dX21_init_335 (fun q_97 H hP hD hS => ?_)
  have hP := qh_frontP (o := (h0, .inr (26, fs_96))) (r := rt_95) (X := [(q_97, .inl (cI, 4001, .inl (fun _ => 0)))]) hP
  have hD := qh_frontD (o := (h0, .inr (26, fs_96))) (r := rt_95) (X := [(q_97, .inl (cI, 4001, .inl (fun _ => 0)))]) hD
  have hP : va_P (dC, dI) vwCl ((h0, .inr (26, fs_96)) :: (q_97, .inl (cI, 4001, .inl (fun _ => 0))) :: rt_95 : va_W) H := hP
  have hD : va_D A ((h0, .inr (26, fs_96)) :: (q_97, .inl (cI, 4001, .inl (fun _ => 0))) :: rt_95 : va_W) := hD
  refine va_putF (D := (dC, dI)) (fs := fs_96) (ci := 26) (v := .ref q_97) (ty := .array .int) (C := RX21) (T := TX21) (N := 95) hx hb hts qh_in21 tyX21 tyX21_ok nmX21 hown hK hP hD hS 0 rfl rfl 36 (by decide) (hts (.fieldLink RX21 117 "QueryHallModel" "recordKinds" "[I") (by decide +kernel)) (fun _ h9 => h9) rfl hin rfl (by decide +kernel) rfl rfl (by rw [hlfs_96]; decide) dX21_init_337 (fun H locs hP hD hS => ?_)
  have hP : va_P (dC, dI) vwCl ((h0, .inr (26, fs_96.set 36 (.ref q_97))) :: (q_97, .inl (cI, 4001, .inl (fun _ => 0))) :: rt_95 : va_W) H := hP
  have hD : va_D A ((h0, .inr (26, fs_96.set 36 (.ref q_97))) :: (q_97, .inl (cI, 4001, .inl (fun _ => 0))) :: rt_95 : va_W) := hD
  generalize hfs_98 : fs_96.set 36 (.ref q_97) = fs_98 at hP hD
  have hlfs_98 : fs_98.length = 95 := by rw [← hfs_98, List.length_set]; exact hlfs_96
  generalize hrt_99 : ((q_97, .inl (cI, 4001, .inl (fun _ => 0))) :: rt_95 : va_W) = rt_99 at hP hD
  subst hrt_99
  subst hrt_95
  subst hrt_92
  subst hrt_89
  subst hrt_86
  subst hrt_82
  subst hrt_78
  clear hlfs_98
  clear hlfs_96
  clear hlfs_94
  clear hlfs_91
  clear hlfs_88
  clear hlfs_85
  clear hlfs_81
  clear hlfs_77
  subst hfs_98
  subst hfs_96
  subst hfs_94
  subst hfs_91
  subst hfs_88
  subst hfs_85
  subst hfs_81
  subst hfs_77
  have hP : va_P (dC, dI) vwCl ((h0, .inr (26, (((((((fs_0.set 26 (.ref q_75)).set 27 (.ref q_79)).set 28 (.ref q_83)).set 30 (.ref q_87)).set 31 (.ref q_90)).set 32 (.ref q_93)).set 35 (.int 1)).set 36 (.ref q_97))) :: (q_97, .inl (cI, 4001, .inl (fun _ => 0))) :: (q_93, .inl (cI, 6, .inl (fun _ => 0))) :: (q_90, .inl (cI, 6, .inl (fun _ => 0))) :: (q_87, .inl (cJ, 6, .inr (.inl (fun _ => 0)))) :: (q_83, .inl (cJJ, 6, .inr (.inr (.inr (.inr (fun i => [q_83_0, q_83_1, q_83_2, q_83_3, q_83_4, q_83_5][i]?)))))) :: (q_83_0, .inl (cJ, 384, .inr (.inl (fun _ => 0)))) :: (q_83_1, .inl (cJ, 384, .inr (.inl (fun _ => 0)))) :: (q_83_2, .inl (cJ, 384, .inr (.inl (fun _ => 0)))) :: (q_83_3, .inl (cJ, 384, .inr (.inl (fun _ => 0)))) :: (q_83_4, .inl (cJ, 384, .inr (.inl (fun _ => 0)))) :: (q_83_5, .inl (cJ, 384, .inr (.inl (fun _ => 0)))) :: (q_79, .inl (cJJ, 6, .inr (.inr (.inr (.inr (fun i => [q_79_0, q_79_1, q_79_2, q_79_3, q_79_4, q_79_5][i]?)))))) :: (q_79_0, .inl (cJ, 384, .inr (.inl (fun _ => 0)))) :: (q_79_1, .inl (cJ, 384, .inr (.inl (fun _ => 0)))) :: (q_79_2, .inl (cJ, 384, .inr (.inl (fun _ => 0)))) :: (q_79_3, .inl (cJ, 384, .inr (.inl (fun _ => 0)))) :: (q_79_4, .inl (cJ, 384, .inr (.inl (fun _ => 0)))) :: (q_79_5, .inl (cJ, 384, .inr (.inl (fun _ => 0)))) :: (q_75, .inl (cII, 6, .inr (.inr (.inr (.inr (fun i => [q_75_0, q_75_1, q_75_2, q_75_3, q_75_4, q_75_5][i]?)))))) :: (q_75_0, .inl (cI, 384, .inl (fun _ => 0))) :: (q_75_1, .inl (cI, 384, .inl (fun _ => 0))) :: (q_75_2, .inl (cI, 384, .inl (fun _ => 0))) :: (q_75_3, .inl (cI, 384, .inl (fun _ => 0))) :: (q_75_4, .inl (cI, 384, .inl (fun _ => 0))) :: (q_75_5, .inl (cI, 384, .inl (fun _ => 0))) :: r0 : va_W) H := hP
  have hD : va_D A ((h0, .inr (26, (((((((fs_0.set 26 (.ref q_75)).set 27 (.ref q_79)).set 28 (.ref q_83)).set 30 (.ref q_87)).set 31 (.ref q_90)).set 32 (.ref q_93)).set 35 (.int 1)).set 36 (.ref q_97))) :: (q_97, .inl (cI, 4001, .inl (fun _ => 0))) :: (q_93, .inl (cI, 6, .inl (fun _ => 0))) :: (q_90, .inl (cI, 6, .inl (fun _ => 0))) :: (q_87, .inl (cJ, 6, .inr (.inl (fun _ => 0)))) :: (q_83, .inl (cJJ, 6, .inr (.inr (.inr (.inr (fun i => [q_83_0, q_83_1, q_83_2, q_83_3, q_83_4, q_83_5][i]?)))))) :: (q_83_0, .inl (cJ, 384, .inr (.inl (fun _ => 0)))) :: (q_83_1, .inl (cJ, 384, .inr (.inl (fun _ => 0)))) :: (q_83_2, .inl (cJ, 384, .inr (.inl (fun _ => 0)))) :: (q_83_3, .inl (cJ, 384, .inr (.inl (fun _ => 0)))) :: (q_83_4, .inl (cJ, 384, .inr (.inl (fun _ => 0)))) :: (q_83_5, .inl (cJ, 384, .inr (.inl (fun _ => 0)))) :: (q_79, .inl (cJJ, 6, .inr (.inr (.inr (.inr (fun i => [q_79_0, q_79_1, q_79_2, q_79_3, q_79_4, q_79_5][i]?)))))) :: (q_79_0, .inl (cJ, 384, .inr (.inl (fun _ => 0)))) :: (q_79_1, .inl (cJ, 384, .inr (.inl (fun _ => 0)))) :: (q_79_2, .inl (cJ, 384, .inr (.inl (fun _ => 0)))) :: (q_79_3, .inl (cJ, 384, .inr (.inl (fun _ => 0)))) :: (q_79_4, .inl (cJ, 384, .inr (.inl (fun _ => 0)))) :: (q_79_5, .inl (cJ, 384, .inr (.inl (fun _ => 0)))) :: (q_75, .inl (cII, 6, .inr (.inr (.inr (.inr (fun i => [q_75_0, q_75_1, q_75_2, q_75_3, q_75_4, q_75_5][i]?)))))) :: (q_75_0, .inl (cI, 384, .inl (fun _ => 0))) :: (q_75_1, .inl (cI, 384, .inl (fun _ => 0))) :: (q_75_2, .inl (cI, 384, .inl (fun _ => 0))) :: (q_75_3, .inl (cI, 384, .inl (fun _ => 0))) :: (q_75_4, .inl (cI, 384, .inl (fun _ => 0))) :: (q_75_5, .inl (cI, 384, .inl (fun _ => 0))) :: r0 : va_W) := hD
  exact kk q_97 q_93 q_90 q_87 q_83 q_83_0 q_83_1 q_83_2 q_83_3 q_83_4 q_83_5 q_79 q_79_0 q_79_1 q_79_2 q_79_3 q_79_4 q_79_5 q_75 q_75_0 q_75_1 q_75_2 q_75_3 q_75_4 q_75_5 H locs hP hD hS
set_option maxHeartbeats 40000000 in
set_option maxRecDepth 100000 in
/-- the reference: QueryHallModel(), from 340 to 405 -/
theorem c_X21_init_340 {p : Program} {l : Launch} {e : Env} {s : State} {m : MethodId} {args : Array Value} {below : List Frame} {meth : Method} {c : Code} {H : Heap} {locs : List Loc} {Q : State → Prop} {A : Nat → Prop} {ls : Array Slot} (dC : Nat → ClassId) (dI : Nat → Nat → Nat) (cI cJ cB cZ cJJ cII cSt cLk : ClassId) (h0 ed ks vs n : Nat) (bf : Nat → Int32) (fs_0 : List Value) (hlfs_0 : fs_0.length = 95) (r0 : va_W) (hx : p.tables.exec = Jvm.exec) (hb : c.code = cX21_init) (hml : c.maxLocals = 7) (hts : ∀ w ∈ wsX21_init, w.before args s = true) (hown : s.vm.findClass RX21 = some m.cls) (hin : meth.name = "<init>") (hK : va_K (dC, dI) vwCl [(cI, .int), (cJ, .long), (cB, .byte), (cZ, .boolean), (cJJ, .array .long), (cII, .array .int), (cSt, .object RX20), (cLk, .object RX16)] s) (hA : ∀ q : Nat, s.heap.size ≤ q → A q) (hE0 : va_Z "java/util/ArrayList" "DEFAULTCAPACITY_EMPTY_ELEMENTDATA" "[Ljava/lang/Object;" (.ref ed) A s s.heap) (hE1 : va_AOA .long s) (hE2 : va_AOA .int s) (hE3 : va_AO RX20 s) (hE4 : va_AO RX16 s) (hE5 : vk_R RX21 240 "create table index on insert into values update set where delete from begin commit rollback number truth text not null select distinct left join group by having order desc or and is in true false count exists sum min max " ks s) (hE6 : va_Z "java/lang/String" "COMPACT_STRINGS" "Z" (.int 1) A s s.heap) (hE7 : va_OF "java/lang/String" "coder" "B" (.int 0) ks A s s.heap) (hE8 : va_OF "java/lang/String" "value" "[B" (.ref vs) ks A s s.heap) (hE9 : va_O "java/lang/String" ks A s s.heap) (hE10 : va_T .byte vs n (fun j => .int (bf j)) A s s.heap) (hE11 : va_Zq "jdk/internal/util/Preconditions" "SIOOBE_FORMATTER" "Ljava/util/function/BiFunction;" A s s.heap) (hl : lv_has ls 7 [(0, .ref h0)]) (hP : va_P (dC, dI) vwCl ((h0, .inr (26, fs_0)) :: r0 : va_W) H) (hD : va_D A ((h0, .inr (26, fs_0)) :: r0 : va_W)) (hS : va_S A s.heap H locs) (kk : ∀ (q_118 q_115 q_112 q_109 q_106 q_103 q_100 : Nat) (H : Heap) (locs : List Loc), va_P (dC, dI) vwCl ((h0, .inr (26, (((((((fs_0.set 37 (.ref q_100)).set 38 (.ref q_103)).set 39 (.ref q_106)).set 40 (.ref q_109)).set 41 (.ref q_112)).set 42 (.ref q_115)).set 43 (.ref q_118)).set 44 (.int 1))) :: (q_118, .inl (cJ, 48012, .inr (.inl (fun _ => 0)))) :: (q_115, .inl (cJ, 48012, .inr (.inl (fun _ => 0)))) :: (q_112, .inl (cI, 48012, .inl (fun _ => 0))) :: (q_109, .inl (cZ, 4001, .inl (fun _ => 0))) :: (q_106, .inl (cI, 4001, .inl (fun _ => 0))) :: (q_103, .inl (cI, 4001, .inl (fun _ => 0))) :: (q_100, .inl (cI, 4001, .inl (fun _ => 0))) :: r0 : va_W) H → va_D A ((h0, .inr (26, (((((((fs_0.set 37 (.ref q_100)).set 38 (.ref q_103)).set 39 (.ref q_106)).set 40 (.ref q_109)).set 41 (.ref q_112)).set 42 (.ref q_115)).set 43 (.ref q_118)).set 44 (.int 1))) :: (q_118, .inl (cJ, 48012, .inr (.inl (fun _ => 0)))) :: (q_115, .inl (cJ, 48012, .inr (.inl (fun _ => 0)))) :: (q_112, .inl (cI, 48012, .inl (fun _ => 0))) :: (q_109, .inl (cZ, 4001, .inl (fun _ => 0))) :: (q_106, .inl (cI, 4001, .inl (fun _ => 0))) :: (q_103, .inl (cI, 4001, .inl (fun _ => 0))) :: (q_100, .inl (cI, 4001, .inl (fun _ => 0))) :: r0 : va_W) → va_S A s.heap H locs → W p l e (headSpec wsX21_init { frames := 8, cells := 113, slots := 306930, locals := 300 }).room s m args below meth c H locs 71 216255 Q (F0 m 405 ls [])) : W p l e (headSpec wsX21_init { frames := 8, cells := 113, slots := 306930, locals := 300 }).room s m args below meth c H locs 64 56215 Q (F0 m 340 ls []) := by
  refine lv_aload_n hx hb dX21_init_340 rfl (lv_at hl 0 rfl) ?_
  refine lv_sipush (v := 4001) hx hb dX21_init_341 (by decide) ?_
  refine qh_newa (atype := .int) (ty := .int) (n := 4001) (N' := 4001) (a0 := (4001, .inl (fun _ => 0))) hx hb (hts (.arrayClass .int) (by decide +kernel)) rfl hK hP hD hS hA 0 rfl (qh_ai .int 4001 rfl) (by decide) (by decide) (by decide) (Nat.le_of_ble_eq_true rfl) (Nat.le_of_ble_eq_true rfl) dX21_init_344 (fun q_100 H hP hD hS => ?_)
  have hP := qh_frontP (o := (h0, .inr (26, fs_0))) (r := r0) (X := [(q_100, .inl (cI, 4001, .inl (fun _ => 0)))]) hP
  have hD := qh_frontD (o := (h0, .inr (26, fs_0))) (r := r0) (X := [(q_100, .inl (cI, 4001, .inl (fun _ => 0)))]) hD
  have hP : va_P (dC, dI) vwCl ((h0, .inr (26, fs_0)) :: (q_100, .inl (cI, 4001, .inl (fun _ => 0))) :: r0 : va_W) H := hP
  have hD : va_D A ((h0, .inr (26, fs_0)) :: (q_100, .inl (cI, 4001, .inl (fun _ => 0))) :: r0 : va_W) := hD
  refine va_putF (D := (dC, dI)) (fs := fs_0) (ci := 26) (v := .ref q_100) (ty := .array .int) (C := RX21) (T := TX21) (N := 95) hx hb hts qh_in21 tyX21 tyX21_ok nmX21 hown hK hP hD hS 0 rfl rfl 37 (by decide) (hts (.fieldLink RX21 120 "QueryHallModel" "recordTransactions" "[I") (by decide +kernel)) (fun _ h9 => h9) rfl hin rfl (by decide +kernel) rfl rfl (by rw [hlfs_0]; decide) dX21_init_346 (fun H locs hP hD hS => ?_)
  have hP : va_P (dC, dI) vwCl ((h0, .inr (26, fs_0.set 37 (.ref q_100))) :: (q_100, .inl (cI, 4001, .inl (fun _ => 0))) :: r0 : va_W) H := hP
  have hD : va_D A ((h0, .inr (26, fs_0.set 37 (.ref q_100))) :: (q_100, .inl (cI, 4001, .inl (fun _ => 0))) :: r0 : va_W) := hD
  generalize hfs_101 : fs_0.set 37 (.ref q_100) = fs_101 at hP hD
  have hlfs_101 : fs_101.length = 95 := by rw [← hfs_101, List.length_set]; exact hlfs_0
  generalize hrt_102 : ((q_100, .inl (cI, 4001, .inl (fun _ => 0))) :: r0 : va_W) = rt_102 at hP hD
  refine lv_aload_n hx hb dX21_init_349 rfl (lv_at hl 0 rfl) ?_
  refine lv_sipush (v := 4001) hx hb dX21_init_350 (by decide) ?_
  refine qh_newa (atype := .int) (ty := .int) (n := 4001) (N' := 4001) (a0 := (4001, .inl (fun _ => 0))) hx hb (hts (.arrayClass .int) (by decide +kernel)) rfl hK hP hD hS hA 0 rfl (qh_ai .int 4001 rfl) (by decide) (by decide) (by decide) (Nat.le_of_ble_eq_true rfl) (Nat.le_of_ble_eq_true rfl) dX21_init_353 (fun q_103 H hP hD hS => ?_)
  have hP := qh_frontP (o := (h0, .inr (26, fs_101))) (r := rt_102) (X := [(q_103, .inl (cI, 4001, .inl (fun _ => 0)))]) hP
  have hD := qh_frontD (o := (h0, .inr (26, fs_101))) (r := rt_102) (X := [(q_103, .inl (cI, 4001, .inl (fun _ => 0)))]) hD
  have hP : va_P (dC, dI) vwCl ((h0, .inr (26, fs_101)) :: (q_103, .inl (cI, 4001, .inl (fun _ => 0))) :: rt_102 : va_W) H := hP
  have hD : va_D A ((h0, .inr (26, fs_101)) :: (q_103, .inl (cI, 4001, .inl (fun _ => 0))) :: rt_102 : va_W) := hD
  refine va_putF (D := (dC, dI)) (fs := fs_101) (ci := 26) (v := .ref q_103) (ty := .array .int) (C := RX21) (T := TX21) (N := 95) hx hb hts qh_in21 tyX21 tyX21_ok nmX21 hown hK hP hD hS 0 rfl rfl 38 (by decide) (hts (.fieldLink RX21 123 "QueryHallModel" "recordTables" "[I") (by decide +kernel)) (fun _ h9 => h9) rfl hin rfl (by decide +kernel) rfl rfl (by rw [hlfs_101]; decide) dX21_init_355 (fun H locs hP hD hS => ?_)
  have hP : va_P (dC, dI) vwCl ((h0, .inr (26, fs_101.set 38 (.ref q_103))) :: (q_103, .inl (cI, 4001, .inl (fun _ => 0))) :: rt_102 : va_W) H := hP
  have hD : va_D A ((h0, .inr (26, fs_101.set 38 (.ref q_103))) :: (q_103, .inl (cI, 4001, .inl (fun _ => 0))) :: rt_102 : va_W) := hD
  generalize hfs_104 : fs_101.set 38 (.ref q_103) = fs_104 at hP hD
  have hlfs_104 : fs_104.length = 95 := by rw [← hfs_104, List.length_set]; exact hlfs_101
  generalize hrt_105 : ((q_103, .inl (cI, 4001, .inl (fun _ => 0))) :: rt_102 : va_W) = rt_105 at hP hD
  refine lv_aload_n hx hb dX21_init_358 rfl (lv_at hl 0 rfl) ?_
  refine lv_sipush (v := 4001) hx hb dX21_init_359 (by decide) ?_
  refine qh_newa (atype := .int) (ty := .int) (n := 4001) (N' := 4001) (a0 := (4001, .inl (fun _ => 0))) hx hb (hts (.arrayClass .int) (by decide +kernel)) rfl hK hP hD hS hA 0 rfl (qh_ai .int 4001 rfl) (by decide) (by decide) (by decide) (Nat.le_of_ble_eq_true rfl) (Nat.le_of_ble_eq_true rfl) dX21_init_362 (fun q_106 H hP hD hS => ?_)
  have hP := qh_frontP (o := (h0, .inr (26, fs_104))) (r := rt_105) (X := [(q_106, .inl (cI, 4001, .inl (fun _ => 0)))]) hP
  have hD := qh_frontD (o := (h0, .inr (26, fs_104))) (r := rt_105) (X := [(q_106, .inl (cI, 4001, .inl (fun _ => 0)))]) hD
  have hP : va_P (dC, dI) vwCl ((h0, .inr (26, fs_104)) :: (q_106, .inl (cI, 4001, .inl (fun _ => 0))) :: rt_105 : va_W) H := hP
  have hD : va_D A ((h0, .inr (26, fs_104)) :: (q_106, .inl (cI, 4001, .inl (fun _ => 0))) :: rt_105 : va_W) := hD
  refine va_putF (D := (dC, dI)) (fs := fs_104) (ci := 26) (v := .ref q_106) (ty := .array .int) (C := RX21) (T := TX21) (N := 95) hx hb hts qh_in21 tyX21 tyX21_ok nmX21 hown hK hP hD hS 0 rfl rfl 39 (by decide) (hts (.fieldLink RX21 126 "QueryHallModel" "recordUndoes" "[I") (by decide +kernel)) (fun _ h9 => h9) rfl hin rfl (by decide +kernel) rfl rfl (by rw [hlfs_104]; decide) dX21_init_364 (fun H locs hP hD hS => ?_)
  have hP : va_P (dC, dI) vwCl ((h0, .inr (26, fs_104.set 39 (.ref q_106))) :: (q_106, .inl (cI, 4001, .inl (fun _ => 0))) :: rt_105 : va_W) H := hP
  have hD : va_D A ((h0, .inr (26, fs_104.set 39 (.ref q_106))) :: (q_106, .inl (cI, 4001, .inl (fun _ => 0))) :: rt_105 : va_W) := hD
  generalize hfs_107 : fs_104.set 39 (.ref q_106) = fs_107 at hP hD
  have hlfs_107 : fs_107.length = 95 := by rw [← hfs_107, List.length_set]; exact hlfs_104
  generalize hrt_108 : ((q_106, .inl (cI, 4001, .inl (fun _ => 0))) :: rt_105 : va_W) = rt_108 at hP hD
  refine lv_aload_n hx hb dX21_init_367 rfl (lv_at hl 0 rfl) ?_
  refine lv_sipush (v := 4001) hx hb dX21_init_368 (by decide) ?_
  refine qh_newa (atype := .boolean) (ty := .boolean) (n := 4001) (N' := 4001) (a0 := (4001, .inl (fun _ => 0))) hx hb (hts (.arrayClass .boolean) (by decide +kernel)) rfl hK hP hD hS hA 3 rfl (qh_ai .boolean 4001 rfl) (by decide) (by decide) (by decide) (Nat.le_of_ble_eq_true rfl) (Nat.le_of_ble_eq_true rfl) dX21_init_371 (fun q_109 H hP hD hS => ?_)
  have hP := qh_frontP (o := (h0, .inr (26, fs_107))) (r := rt_108) (X := [(q_109, .inl (cZ, 4001, .inl (fun _ => 0)))]) hP
  have hD := qh_frontD (o := (h0, .inr (26, fs_107))) (r := rt_108) (X := [(q_109, .inl (cZ, 4001, .inl (fun _ => 0)))]) hD
  have hP : va_P (dC, dI) vwCl ((h0, .inr (26, fs_107)) :: (q_109, .inl (cZ, 4001, .inl (fun _ => 0))) :: rt_108 : va_W) H := hP
  have hD : va_D A ((h0, .inr (26, fs_107)) :: (q_109, .inl (cZ, 4001, .inl (fun _ => 0))) :: rt_108 : va_W) := hD
  refine va_putF (D := (dC, dI)) (fs := fs_107) (ci := 26) (v := .ref q_109) (ty := .array .boolean) (C := RX21) (T := TX21) (N := 95) hx hb hts qh_in21 tyX21 tyX21_ok nmX21 hown hK hP hD hS 0 rfl rfl 40 (by decide) (hts (.fieldLink RX21 129 "QueryHallModel" "isUndone" "[Z") (by decide +kernel)) (fun _ h9 => h9) rfl hin rfl (by decide +kernel) rfl rfl (by rw [hlfs_107]; decide) dX21_init_373 (fun H locs hP hD hS => ?_)
  have hP : va_P (dC, dI) vwCl ((h0, .inr (26, fs_107.set 40 (.ref q_109))) :: (q_109, .inl (cZ, 4001, .inl (fun _ => 0))) :: rt_108 : va_W) H := hP
  have hD : va_D A ((h0, .inr (26, fs_107.set 40 (.ref q_109))) :: (q_109, .inl (cZ, 4001, .inl (fun _ => 0))) :: rt_108 : va_W) := hD
  generalize hfs_110 : fs_107.set 40 (.ref q_109) = fs_110 at hP hD
  have hlfs_110 : fs_110.length = 95 := by rw [← hfs_110, List.length_set]; exact hlfs_107
  generalize hrt_111 : ((q_109, .inl (cZ, 4001, .inl (fun _ => 0))) :: rt_108 : va_W) = rt_111 at hP hD
  refine lv_aload_n hx hb dX21_init_376 rfl (lv_at hl 0 rfl) ?_
  refine lv_ldc (own := RX21) (v := 48012) hx hb hown (hts (.constant RX21 132 (48012)) (by decide +kernel)) dX21_init_377 ?_
  refine qh_newa (atype := .int) (ty := .int) (n := 48012) (N' := 48012) (a0 := (48012, .inl (fun _ => 0))) hx hb (hts (.arrayClass .int) (by decide +kernel)) rfl hK hP hD hS hA 0 rfl (qh_ai .int 48012 rfl) (by decide) (by decide) (by decide) (Nat.le_of_ble_eq_true rfl) (Nat.le_of_ble_eq_true rfl) dX21_init_379 (fun q_112 H hP hD hS => ?_)
  have hP := qh_frontP (o := (h0, .inr (26, fs_110))) (r := rt_111) (X := [(q_112, .inl (cI, 48012, .inl (fun _ => 0)))]) hP
  have hD := qh_frontD (o := (h0, .inr (26, fs_110))) (r := rt_111) (X := [(q_112, .inl (cI, 48012, .inl (fun _ => 0)))]) hD
  have hP : va_P (dC, dI) vwCl ((h0, .inr (26, fs_110)) :: (q_112, .inl (cI, 48012, .inl (fun _ => 0))) :: rt_111 : va_W) H := hP
  have hD : va_D A ((h0, .inr (26, fs_110)) :: (q_112, .inl (cI, 48012, .inl (fun _ => 0))) :: rt_111 : va_W) := hD
  refine va_putF (D := (dC, dI)) (fs := fs_110) (ci := 26) (v := .ref q_112) (ty := .array .int) (C := RX21) (T := TX21) (N := 95) hx hb hts qh_in21 tyX21 tyX21_ok nmX21 hown hK hP hD hS 0 rfl rfl 41 (by decide) (hts (.fieldLink RX21 133 "QueryHallModel" "recordValues" "[I") (by decide +kernel)) (fun _ h9 => h9) rfl hin rfl (by decide +kernel) rfl rfl (by rw [hlfs_110]; decide) dX21_init_381 (fun H locs hP hD hS => ?_)
  have hP : va_P (dC, dI) vwCl ((h0, .inr (26, fs_110.set 41 (.ref q_112))) :: (q_112, .inl (cI, 48012, .inl (fun _ => 0))) :: rt_111 : va_W) H := hP
  have hD : va_D A ((h0, .inr (26, fs_110.set 41 (.ref q_112))) :: (q_112, .inl (cI, 48012, .inl (fun _ => 0))) :: rt_111 : va_W) := hD
  generalize hfs_113 : fs_110.set 41 (.ref q_112) = fs_113 at hP hD
  have hlfs_113 : fs_113.length = 95 := by rw [← hfs_113, List.length_set]; exact hlfs_110
  generalize hrt_114 : ((q_112, .inl (cI, 48012, .inl (fun _ => 0))) :: rt_111 : va_W) = rt_114 at hP hD
  refine lv_aload_n hx hb dX21_init_384 rfl (lv_at hl 0 rfl) ?_
  refine lv_ldc (own := RX21) (v := 48012) hx hb hown (hts (.constant RX21 132 (48012)) (by decide +kernel)) dX21_init_385 ?_
  refine qh_newa (atype := .long) (ty := .long) (n := 48012) (N' := 48012) (a0 := (48012, .inr (.inl (fun _ => 0)))) hx hb (hts (.arrayClass .long) (by decide +kernel)) rfl hK hP hD hS hA 1 rfl (qh_al 48012) (by decide) (by decide) (by decide) (Nat.le_of_ble_eq_true rfl) (Nat.le_of_ble_eq_true rfl) dX21_init_387 (fun q_115 H hP hD hS => ?_)
  have hP := qh_frontP (o := (h0, .inr (26, fs_113))) (r := rt_114) (X := [(q_115, .inl (cJ, 48012, .inr (.inl (fun _ => 0))))]) hP
  have hD := qh_frontD (o := (h0, .inr (26, fs_113))) (r := rt_114) (X := [(q_115, .inl (cJ, 48012, .inr (.inl (fun _ => 0))))]) hD
  have hP : va_P (dC, dI) vwCl ((h0, .inr (26, fs_113)) :: (q_115, .inl (cJ, 48012, .inr (.inl (fun _ => 0)))) :: rt_114 : va_W) H := hP
  have hD : va_D A ((h0, .inr (26, fs_113)) :: (q_115, .inl (cJ, 48012, .inr (.inl (fun _ => 0)))) :: rt_114 : va_W) := hD
  refine va_putF (D := (dC, dI)) (fs := fs_113) (ci := 26) (v := .ref q_115) (ty := .array .long) (C := RX21) (T := TX21) (N := 95) hx hb hts qh_in21 tyX21 tyX21_ok nmX21 hown hK hP hD hS 0 rfl rfl 42 (by decide) (hts (.fieldLink RX21 136 "QueryHallModel" "recordHigh" "[J") (by decide +kernel)) (fun _ h9 => h9) rfl hin rfl (by decide +kernel) rfl rfl (by rw [hlfs_113]; decide) dX21_init_389 (fun H locs hP hD hS => ?_)
  have hP : va_P (dC, dI) vwCl ((h0, .inr (26, fs_113.set 42 (.ref q_115))) :: (q_115, .inl (cJ, 48012, .inr (.inl (fun _ => 0)))) :: rt_114 : va_W) H := hP
  have hD : va_D A ((h0, .inr (26, fs_113.set 42 (.ref q_115))) :: (q_115, .inl (cJ, 48012, .inr (.inl (fun _ => 0)))) :: rt_114 : va_W) := hD
  generalize hfs_116 : fs_113.set 42 (.ref q_115) = fs_116 at hP hD
  have hlfs_116 : fs_116.length = 95 := by rw [← hfs_116, List.length_set]; exact hlfs_113
  generalize hrt_117 : ((q_115, .inl (cJ, 48012, .inr (.inl (fun _ => 0)))) :: rt_114 : va_W) = rt_117 at hP hD
  refine lv_aload_n hx hb dX21_init_392 rfl (lv_at hl 0 rfl) ?_
  refine lv_ldc (own := RX21) (v := 48012) hx hb hown (hts (.constant RX21 132 (48012)) (by decide +kernel)) dX21_init_393 ?_
  refine qh_newa (atype := .long) (ty := .long) (n := 48012) (N' := 48012) (a0 := (48012, .inr (.inl (fun _ => 0)))) hx hb (hts (.arrayClass .long) (by decide +kernel)) rfl hK hP hD hS hA 1 rfl (qh_al 48012) (by decide) (by decide) (by decide) (Nat.le_of_ble_eq_true rfl) (Nat.le_of_ble_eq_true rfl) dX21_init_395 (fun q_118 H hP hD hS => ?_)
  have hP := qh_frontP (o := (h0, .inr (26, fs_116))) (r := rt_117) (X := [(q_118, .inl (cJ, 48012, .inr (.inl (fun _ => 0))))]) hP
  have hD := qh_frontD (o := (h0, .inr (26, fs_116))) (r := rt_117) (X := [(q_118, .inl (cJ, 48012, .inr (.inl (fun _ => 0))))]) hD
  have hP : va_P (dC, dI) vwCl ((h0, .inr (26, fs_116)) :: (q_118, .inl (cJ, 48012, .inr (.inl (fun _ => 0)))) :: rt_117 : va_W) H := hP
  have hD : va_D A ((h0, .inr (26, fs_116)) :: (q_118, .inl (cJ, 48012, .inr (.inl (fun _ => 0)))) :: rt_117 : va_W) := hD
  refine va_putF (D := (dC, dI)) (fs := fs_116) (ci := 26) (v := .ref q_118) (ty := .array .long) (C := RX21) (T := TX21) (N := 95) hx hb hts qh_in21 tyX21 tyX21_ok nmX21 hown hK hP hD hS 0 rfl rfl 43 (by decide) (hts (.fieldLink RX21 139 "QueryHallModel" "recordLow" "[J") (by decide +kernel)) (fun _ h9 => h9) rfl hin rfl (by decide +kernel) rfl rfl (by rw [hlfs_116]; decide) dX21_init_397 (fun H locs hP hD hS => ?_)
  have hP : va_P (dC, dI) vwCl ((h0, .inr (26, fs_116.set 43 (.ref q_118))) :: (q_118, .inl (cJ, 48012, .inr (.inl (fun _ => 0)))) :: rt_117 : va_W) H := hP
  have hD : va_D A ((h0, .inr (26, fs_116.set 43 (.ref q_118))) :: (q_118, .inl (cJ, 48012, .inr (.inl (fun _ => 0)))) :: rt_117 : va_W) := hD
  generalize hfs_119 : fs_116.set 43 (.ref q_118) = fs_119 at hP hD
  have hlfs_119 : fs_119.length = 95 := by rw [← hfs_119, List.length_set]; exact hlfs_116
  generalize hrt_120 : ((q_118, .inl (cJ, 48012, .inr (.inl (fun _ => 0)))) :: rt_117 : va_W) = rt_120 at hP hD
  refine lv_aload_n hx hb dX21_init_400 rfl (lv_at hl 0 rfl) ?_
  refine lv_iconst (v := 1) hx hb dX21_init_401 (by decide) ?_
  refine va_put (D := (dC, dI)) (fs := fs_119) (ci := 26) (v := .int 1) (ty := .boolean) (C := RX21) (T := TX21) (N := 95) hx hb hts qh_in21 tyX21 tyX21_ok nmX21 hown hK hP hD hS 0 rfl rfl 44 (by decide) (hts (.fieldLink RX21 142 "QueryHallModel" "isUp" "Z") (by decide +kernel)) (fun _ h9 => h9) rfl (by decide +kernel) rfl rfl (by rw [hlfs_119]; decide) dX21_init_402 (fun H locs hP hD hS => ?_)
  have hP : va_P (dC, dI) vwCl ((h0, .inr (26, fs_119.set 44 (.int 1))) :: rt_120 : va_W) H := hP
  have hD : va_D A ((h0, .inr (26, fs_119.set 44 (.int 1))) :: rt_120 : va_W) := hD
  generalize hfs_121 : fs_119.set 44 (.int 1) = fs_121 at hP hD
  have hlfs_121 : fs_121.length = 95 := by rw [← hfs_121, List.length_set]; exact hlfs_119
  subst hrt_120
  subst hrt_117
  subst hrt_114
  subst hrt_111
  subst hrt_108
  subst hrt_105
  subst hrt_102
  clear hlfs_121
  clear hlfs_119
  clear hlfs_116
  clear hlfs_113
  clear hlfs_110
  clear hlfs_107
  clear hlfs_104
  clear hlfs_101
  subst hfs_121
  subst hfs_119
  subst hfs_116
  subst hfs_113
  subst hfs_110
  subst hfs_107
  subst hfs_104
  subst hfs_101
  have hP : va_P (dC, dI) vwCl ((h0, .inr (26, (((((((fs_0.set 37 (.ref q_100)).set 38 (.ref q_103)).set 39 (.ref q_106)).set 40 (.ref q_109)).set 41 (.ref q_112)).set 42 (.ref q_115)).set 43 (.ref q_118)).set 44 (.int 1))) :: (q_118, .inl (cJ, 48012, .inr (.inl (fun _ => 0)))) :: (q_115, .inl (cJ, 48012, .inr (.inl (fun _ => 0)))) :: (q_112, .inl (cI, 48012, .inl (fun _ => 0))) :: (q_109, .inl (cZ, 4001, .inl (fun _ => 0))) :: (q_106, .inl (cI, 4001, .inl (fun _ => 0))) :: (q_103, .inl (cI, 4001, .inl (fun _ => 0))) :: (q_100, .inl (cI, 4001, .inl (fun _ => 0))) :: r0 : va_W) H := hP
  have hD : va_D A ((h0, .inr (26, (((((((fs_0.set 37 (.ref q_100)).set 38 (.ref q_103)).set 39 (.ref q_106)).set 40 (.ref q_109)).set 41 (.ref q_112)).set 42 (.ref q_115)).set 43 (.ref q_118)).set 44 (.int 1))) :: (q_118, .inl (cJ, 48012, .inr (.inl (fun _ => 0)))) :: (q_115, .inl (cJ, 48012, .inr (.inl (fun _ => 0)))) :: (q_112, .inl (cI, 48012, .inl (fun _ => 0))) :: (q_109, .inl (cZ, 4001, .inl (fun _ => 0))) :: (q_106, .inl (cI, 4001, .inl (fun _ => 0))) :: (q_103, .inl (cI, 4001, .inl (fun _ => 0))) :: (q_100, .inl (cI, 4001, .inl (fun _ => 0))) :: r0 : va_W) := hD
  exact kk q_118 q_115 q_112 q_109 q_106 q_103 q_100 H locs hP hD hS
set_option maxHeartbeats 40000000 in
set_option maxRecDepth 100000 in
/-- the reference: QueryHallModel(), from 416 to 490 -/
theorem c_X21_init_416 {p : Program} {l : Launch} {e : Env} {s : State} {m : MethodId} {args : Array Value} {below : List Frame} {meth : Method} {c : Code} {H : Heap} {locs : List Loc} {Q : State → Prop} {A : Nat → Prop} {ls : Array Slot} (dC : Nat → ClassId) (dI : Nat → Nat → Nat) (cI cJ cB cZ cJJ cII cSt cLk : ClassId) (h0 ed ks vs n : Nat) (bf : Nat → Int32) (fs_0 : List Value) (hlfs_0 : fs_0.length = 95) (r0 : va_W) (hx : p.tables.exec = Jvm.exec) (hb : c.code = cX21_init) (hml : c.maxLocals = 7) (hts : ∀ w ∈ wsX21_init, w.before args s = true) (hown : s.vm.findClass RX21 = some m.cls) (hin : meth.name = "<init>") (hK : va_K (dC, dI) vwCl [(cI, .int), (cJ, .long), (cB, .byte), (cZ, .boolean), (cJJ, .array .long), (cII, .array .int), (cSt, .object RX20), (cLk, .object RX16)] s) (hA : ∀ q : Nat, s.heap.size ≤ q → A q) (hE0 : va_Z "java/util/ArrayList" "DEFAULTCAPACITY_EMPTY_ELEMENTDATA" "[Ljava/lang/Object;" (.ref ed) A s s.heap) (hE1 : va_AOA .long s) (hE2 : va_AOA .int s) (hE3 : va_AO RX20 s) (hE4 : va_AO RX16 s) (hE5 : vk_R RX21 240 "create table index on insert into values update set where delete from begin commit rollback number truth text not null select distinct left join group by having order desc or and is in true false count exists sum min max " ks s) (hE6 : va_Z "java/lang/String" "COMPACT_STRINGS" "Z" (.int 1) A s s.heap) (hE7 : va_OF "java/lang/String" "coder" "B" (.int 0) ks A s s.heap) (hE8 : va_OF "java/lang/String" "value" "[B" (.ref vs) ks A s s.heap) (hE9 : va_O "java/lang/String" ks A s s.heap) (hE10 : va_T .byte vs n (fun j => .int (bf j)) A s s.heap) (hE11 : va_Zq "jdk/internal/util/Preconditions" "SIOOBE_FORMATTER" "Ljava/util/function/BiFunction;" A s s.heap) (hl : lv_has ls 7 [(0, .ref h0)]) (hP : va_P (dC, dI) vwCl ((h0, .inr (26, fs_0)) :: r0 : va_W) H) (hD : va_D A ((h0, .inr (26, fs_0)) :: r0 : va_W)) (hS : va_S A s.heap H locs) (kk : ∀ (q_144 q_144_0 q_144_1 q_144_2 q_140 q_140_0 q_140_1 q_140_2 q_137 q_134 q_131 q_128 q_125 q_122 : Nat) (H : Heap) (locs : List Loc), va_P (dC, dI) vwCl ((h0, .inr (26, (((((((fs_0.set 49 (.ref q_122)).set 51 (.ref q_125)).set 53 (.ref q_128)).set 54 (.ref q_131)).set 55 (.ref q_134)).set 56 (.ref q_137)).set 69 (.ref q_140)).set 70 (.ref q_144))) :: (q_144, .inl (cII, 3, .inr (.inr (.inr (.inr (fun i => [q_144_0, q_144_1, q_144_2][i]?)))))) :: (q_144_0, .inl (cI, 6003, .inl (fun _ => 0))) :: (q_144_1, .inl (cI, 6003, .inl (fun _ => 0))) :: (q_144_2, .inl (cI, 6003, .inl (fun _ => 0))) :: (q_140, .inl (cII, 3, .inr (.inr (.inr (.inr (fun i => [q_140_0, q_140_1, q_140_2][i]?)))))) :: (q_140_0, .inl (cI, 3, .inl (fun _ => 0))) :: (q_140_1, .inl (cI, 3, .inl (fun _ => 0))) :: (q_140_2, .inl (cI, 3, .inl (fun _ => 0))) :: (q_137, .inl (cJ, 402, .inr (.inl (fun _ => 0)))) :: (q_134, .inl (cJ, 402, .inr (.inl (fun _ => 0)))) :: (q_131, .inl (cI, 402, .inl (fun _ => 0))) :: (q_128, .inl (cI, 402, .inl (fun _ => 0))) :: (q_125, .inl (cJ, 40, .inr (.inl (fun _ => 0)))) :: (q_122, .inl (cI, 64, .inl (fun _ => 0))) :: r0 : va_W) H → va_D A ((h0, .inr (26, (((((((fs_0.set 49 (.ref q_122)).set 51 (.ref q_125)).set 53 (.ref q_128)).set 54 (.ref q_131)).set 55 (.ref q_134)).set 56 (.ref q_137)).set 69 (.ref q_140)).set 70 (.ref q_144))) :: (q_144, .inl (cII, 3, .inr (.inr (.inr (.inr (fun i => [q_144_0, q_144_1, q_144_2][i]?)))))) :: (q_144_0, .inl (cI, 6003, .inl (fun _ => 0))) :: (q_144_1, .inl (cI, 6003, .inl (fun _ => 0))) :: (q_144_2, .inl (cI, 6003, .inl (fun _ => 0))) :: (q_140, .inl (cII, 3, .inr (.inr (.inr (.inr (fun i => [q_140_0, q_140_1, q_140_2][i]?)))))) :: (q_140_0, .inl (cI, 3, .inl (fun _ => 0))) :: (q_140_1, .inl (cI, 3, .inl (fun _ => 0))) :: (q_140_2, .inl (cI, 3, .inl (fun _ => 0))) :: (q_137, .inl (cJ, 402, .inr (.inl (fun _ => 0)))) :: (q_134, .inl (cJ, 402, .inr (.inl (fun _ => 0)))) :: (q_131, .inl (cI, 402, .inl (fun _ => 0))) :: (q_128, .inl (cI, 402, .inl (fun _ => 0))) :: (q_125, .inl (cJ, 40, .inr (.inl (fun _ => 0)))) :: (q_122, .inl (cI, 64, .inl (fun _ => 0))) :: r0 : va_W) → va_S A s.heap H locs → W p l e (headSpec wsX21_init { frames := 8, cells := 113, slots := 306930, locals := 300 }).room s m args below meth c H locs 86 235994 Q (F0 m 490 ls [])) : W p l e (headSpec wsX21_init { frames := 8, cells := 113, slots := 306930, locals := 300 }).room s m args below meth c H locs 72 216258 Q (F0 m 416 ls []) := by
  refine lv_aload_n hx hb dX21_init_416 rfl (lv_at hl 0 rfl) ?_
  refine lv_bipush (v := 64) hx hb dX21_init_417 (by decide) ?_
  refine qh_newa (atype := .int) (ty := .int) (n := 64) (N' := 64) (a0 := (64, .inl (fun _ => 0))) hx hb (hts (.arrayClass .int) (by decide +kernel)) rfl hK hP hD hS hA 0 rfl (qh_ai .int 64 rfl) (by decide) (by decide) (by decide) (Nat.le_of_ble_eq_true rfl) (Nat.le_of_ble_eq_true rfl) dX21_init_419 (fun q_122 H hP hD hS => ?_)
  have hP := qh_frontP (o := (h0, .inr (26, fs_0))) (r := r0) (X := [(q_122, .inl (cI, 64, .inl (fun _ => 0)))]) hP
  have hD := qh_frontD (o := (h0, .inr (26, fs_0))) (r := r0) (X := [(q_122, .inl (cI, 64, .inl (fun _ => 0)))]) hD
  have hP : va_P (dC, dI) vwCl ((h0, .inr (26, fs_0)) :: (q_122, .inl (cI, 64, .inl (fun _ => 0))) :: r0 : va_W) H := hP
  have hD : va_D A ((h0, .inr (26, fs_0)) :: (q_122, .inl (cI, 64, .inl (fun _ => 0))) :: r0 : va_W) := hD
  refine va_putF (D := (dC, dI)) (fs := fs_0) (ci := 26) (v := .ref q_122) (ty := .array .int) (C := RX21) (T := TX21) (N := 95) hx hb hts qh_in21 tyX21 tyX21_ok nmX21 hown hK hP hD hS 0 rfl rfl 49 (by decide) (hts (.fieldLink RX21 153 "QueryHallModel" "going" "[I") (by decide +kernel)) (fun _ h9 => h9) rfl hin rfl (by decide +kernel) rfl rfl (by rw [hlfs_0]; decide) dX21_init_421 (fun H locs hP hD hS => ?_)
  have hP : va_P (dC, dI) vwCl ((h0, .inr (26, fs_0.set 49 (.ref q_122))) :: (q_122, .inl (cI, 64, .inl (fun _ => 0))) :: r0 : va_W) H := hP
  have hD : va_D A ((h0, .inr (26, fs_0.set 49 (.ref q_122))) :: (q_122, .inl (cI, 64, .inl (fun _ => 0))) :: r0 : va_W) := hD
  generalize hfs_123 : fs_0.set 49 (.ref q_122) = fs_123 at hP hD
  have hlfs_123 : fs_123.length = 95 := by rw [← hfs_123, List.length_set]; exact hlfs_0
  generalize hrt_124 : ((q_122, .inl (cI, 64, .inl (fun _ => 0))) :: r0 : va_W) = rt_124 at hP hD
  refine lv_aload_n hx hb dX21_init_424 rfl (lv_at hl 0 rfl) ?_
  refine lv_bipush (v := 40) hx hb dX21_init_425 (by decide) ?_
  refine qh_newa (atype := .long) (ty := .long) (n := 40) (N' := 40) (a0 := (40, .inr (.inl (fun _ => 0)))) hx hb (hts (.arrayClass .long) (by decide +kernel)) rfl hK hP hD hS hA 1 rfl (qh_al 40) (by decide) (by decide) (by decide) (Nat.le_of_ble_eq_true rfl) (Nat.le_of_ble_eq_true rfl) dX21_init_427 (fun q_125 H hP hD hS => ?_)
  have hP := qh_frontP (o := (h0, .inr (26, fs_123))) (r := rt_124) (X := [(q_125, .inl (cJ, 40, .inr (.inl (fun _ => 0))))]) hP
  have hD := qh_frontD (o := (h0, .inr (26, fs_123))) (r := rt_124) (X := [(q_125, .inl (cJ, 40, .inr (.inl (fun _ => 0))))]) hD
  have hP : va_P (dC, dI) vwCl ((h0, .inr (26, fs_123)) :: (q_125, .inl (cJ, 40, .inr (.inl (fun _ => 0)))) :: rt_124 : va_W) H := hP
  have hD : va_D A ((h0, .inr (26, fs_123)) :: (q_125, .inl (cJ, 40, .inr (.inl (fun _ => 0)))) :: rt_124 : va_W) := hD
  refine va_putF (D := (dC, dI)) (fs := fs_123) (ci := 26) (v := .ref q_125) (ty := .array .long) (C := RX21) (T := TX21) (N := 95) hx hb hts qh_in21 tyX21 tyX21_ok nmX21 hown hK hP hD hS 0 rfl rfl 51 (by decide) (hts (.fieldLink RX21 156 "QueryHallModel" "keywords" "[J") (by decide +kernel)) (fun _ h9 => h9) rfl hin rfl (by decide +kernel) rfl rfl (by rw [hlfs_123]; decide) dX21_init_429 (fun H locs hP hD hS => ?_)
  have hP : va_P (dC, dI) vwCl ((h0, .inr (26, fs_123.set 51 (.ref q_125))) :: (q_125, .inl (cJ, 40, .inr (.inl (fun _ => 0)))) :: rt_124 : va_W) H := hP
  have hD : va_D A ((h0, .inr (26, fs_123.set 51 (.ref q_125))) :: (q_125, .inl (cJ, 40, .inr (.inl (fun _ => 0)))) :: rt_124 : va_W) := hD
  generalize hfs_126 : fs_123.set 51 (.ref q_125) = fs_126 at hP hD
  have hlfs_126 : fs_126.length = 95 := by rw [← hfs_126, List.length_set]; exact hlfs_123
  generalize hrt_127 : ((q_125, .inl (cJ, 40, .inr (.inl (fun _ => 0)))) :: rt_124 : va_W) = rt_127 at hP hD
  refine lv_aload_n hx hb dX21_init_432 rfl (lv_at hl 0 rfl) ?_
  refine lv_sipush (v := 402) hx hb dX21_init_433 (by decide) ?_
  refine qh_newa (atype := .int) (ty := .int) (n := 402) (N' := 402) (a0 := (402, .inl (fun _ => 0))) hx hb (hts (.arrayClass .int) (by decide +kernel)) rfl hK hP hD hS hA 0 rfl (qh_ai .int 402 rfl) (by decide) (by decide) (by decide) (Nat.le_of_ble_eq_true rfl) (Nat.le_of_ble_eq_true rfl) dX21_init_436 (fun q_128 H hP hD hS => ?_)
  have hP := qh_frontP (o := (h0, .inr (26, fs_126))) (r := rt_127) (X := [(q_128, .inl (cI, 402, .inl (fun _ => 0)))]) hP
  have hD := qh_frontD (o := (h0, .inr (26, fs_126))) (r := rt_127) (X := [(q_128, .inl (cI, 402, .inl (fun _ => 0)))]) hD
  have hP : va_P (dC, dI) vwCl ((h0, .inr (26, fs_126)) :: (q_128, .inl (cI, 402, .inl (fun _ => 0))) :: rt_127 : va_W) H := hP
  have hD : va_D A ((h0, .inr (26, fs_126)) :: (q_128, .inl (cI, 402, .inl (fun _ => 0))) :: rt_127 : va_W) := hD
  refine va_putF (D := (dC, dI)) (fs := fs_126) (ci := 26) (v := .ref q_128) (ty := .array .int) (C := RX21) (T := TX21) (N := 95) hx hb hts qh_in21 tyX21 tyX21_ok nmX21 hown hK hP hD hS 0 rfl rfl 53 (by decide) (hts (.fieldLink RX21 159 "QueryHallModel" "tokenKinds" "[I") (by decide +kernel)) (fun _ h9 => h9) rfl hin rfl (by decide +kernel) rfl rfl (by rw [hlfs_126]; decide) dX21_init_438 (fun H locs hP hD hS => ?_)
  have hP : va_P (dC, dI) vwCl ((h0, .inr (26, fs_126.set 53 (.ref q_128))) :: (q_128, .inl (cI, 402, .inl (fun _ => 0))) :: rt_127 : va_W) H := hP
  have hD : va_D A ((h0, .inr (26, fs_126.set 53 (.ref q_128))) :: (q_128, .inl (cI, 402, .inl (fun _ => 0))) :: rt_127 : va_W) := hD
  generalize hfs_129 : fs_126.set 53 (.ref q_128) = fs_129 at hP hD
  have hlfs_129 : fs_129.length = 95 := by rw [← hfs_129, List.length_set]; exact hlfs_126
  generalize hrt_130 : ((q_128, .inl (cI, 402, .inl (fun _ => 0))) :: rt_127 : va_W) = rt_130 at hP hD
  refine lv_aload_n hx hb dX21_init_441 rfl (lv_at hl 0 rfl) ?_
  refine lv_sipush (v := 402) hx hb dX21_init_442 (by decide) ?_
  refine qh_newa (atype := .int) (ty := .int) (n := 402) (N' := 402) (a0 := (402, .inl (fun _ => 0))) hx hb (hts (.arrayClass .int) (by decide +kernel)) rfl hK hP hD hS hA 0 rfl (qh_ai .int 402 rfl) (by decide) (by decide) (by decide) (Nat.le_of_ble_eq_true rfl) (Nat.le_of_ble_eq_true rfl) dX21_init_445 (fun q_131 H hP hD hS => ?_)
  have hP := qh_frontP (o := (h0, .inr (26, fs_129))) (r := rt_130) (X := [(q_131, .inl (cI, 402, .inl (fun _ => 0)))]) hP
  have hD := qh_frontD (o := (h0, .inr (26, fs_129))) (r := rt_130) (X := [(q_131, .inl (cI, 402, .inl (fun _ => 0)))]) hD
  have hP : va_P (dC, dI) vwCl ((h0, .inr (26, fs_129)) :: (q_131, .inl (cI, 402, .inl (fun _ => 0))) :: rt_130 : va_W) H := hP
  have hD : va_D A ((h0, .inr (26, fs_129)) :: (q_131, .inl (cI, 402, .inl (fun _ => 0))) :: rt_130 : va_W) := hD
  refine va_putF (D := (dC, dI)) (fs := fs_129) (ci := 26) (v := .ref q_131) (ty := .array .int) (C := RX21) (T := TX21) (N := 95) hx hb hts qh_in21 tyX21 tyX21_ok nmX21 hown hK hP hD hS 0 rfl rfl 54 (by decide) (hts (.fieldLink RX21 162 "QueryHallModel" "tokenPlaces" "[I") (by decide +kernel)) (fun _ h9 => h9) rfl hin rfl (by decide +kernel) rfl rfl (by rw [hlfs_129]; decide) dX21_init_447 (fun H locs hP hD hS => ?_)
  have hP : va_P (dC, dI) vwCl ((h0, .inr (26, fs_129.set 54 (.ref q_131))) :: (q_131, .inl (cI, 402, .inl (fun _ => 0))) :: rt_130 : va_W) H := hP
  have hD : va_D A ((h0, .inr (26, fs_129.set 54 (.ref q_131))) :: (q_131, .inl (cI, 402, .inl (fun _ => 0))) :: rt_130 : va_W) := hD
  generalize hfs_132 : fs_129.set 54 (.ref q_131) = fs_132 at hP hD
  have hlfs_132 : fs_132.length = 95 := by rw [← hfs_132, List.length_set]; exact hlfs_129
  generalize hrt_133 : ((q_131, .inl (cI, 402, .inl (fun _ => 0))) :: rt_130 : va_W) = rt_133 at hP hD
  refine lv_aload_n hx hb dX21_init_450 rfl (lv_at hl 0 rfl) ?_
  refine lv_sipush (v := 402) hx hb dX21_init_451 (by decide) ?_
  refine qh_newa (atype := .long) (ty := .long) (n := 402) (N' := 402) (a0 := (402, .inr (.inl (fun _ => 0)))) hx hb (hts (.arrayClass .long) (by decide +kernel)) rfl hK hP hD hS hA 1 rfl (qh_al 402) (by decide) (by decide) (by decide) (Nat.le_of_ble_eq_true rfl) (Nat.le_of_ble_eq_true rfl) dX21_init_454 (fun q_134 H hP hD hS => ?_)
  have hP := qh_frontP (o := (h0, .inr (26, fs_132))) (r := rt_133) (X := [(q_134, .inl (cJ, 402, .inr (.inl (fun _ => 0))))]) hP
  have hD := qh_frontD (o := (h0, .inr (26, fs_132))) (r := rt_133) (X := [(q_134, .inl (cJ, 402, .inr (.inl (fun _ => 0))))]) hD
  have hP : va_P (dC, dI) vwCl ((h0, .inr (26, fs_132)) :: (q_134, .inl (cJ, 402, .inr (.inl (fun _ => 0)))) :: rt_133 : va_W) H := hP
  have hD : va_D A ((h0, .inr (26, fs_132)) :: (q_134, .inl (cJ, 402, .inr (.inl (fun _ => 0)))) :: rt_133 : va_W) := hD
  refine va_putF (D := (dC, dI)) (fs := fs_132) (ci := 26) (v := .ref q_134) (ty := .array .long) (C := RX21) (T := TX21) (N := 95) hx hb hts qh_in21 tyX21 tyX21_ok nmX21 hown hK hP hD hS 0 rfl rfl 55 (by decide) (hts (.fieldLink RX21 165 "QueryHallModel" "tokenValues" "[J") (by decide +kernel)) (fun _ h9 => h9) rfl hin rfl (by decide +kernel) rfl rfl (by rw [hlfs_132]; decide) dX21_init_456 (fun H locs hP hD hS => ?_)
  have hP : va_P (dC, dI) vwCl ((h0, .inr (26, fs_132.set 55 (.ref q_134))) :: (q_134, .inl (cJ, 402, .inr (.inl (fun _ => 0)))) :: rt_133 : va_W) H := hP
  have hD : va_D A ((h0, .inr (26, fs_132.set 55 (.ref q_134))) :: (q_134, .inl (cJ, 402, .inr (.inl (fun _ => 0)))) :: rt_133 : va_W) := hD
  generalize hfs_135 : fs_132.set 55 (.ref q_134) = fs_135 at hP hD
  have hlfs_135 : fs_135.length = 95 := by rw [← hfs_135, List.length_set]; exact hlfs_132
  generalize hrt_136 : ((q_134, .inl (cJ, 402, .inr (.inl (fun _ => 0)))) :: rt_133 : va_W) = rt_136 at hP hD
  refine lv_aload_n hx hb dX21_init_459 rfl (lv_at hl 0 rfl) ?_
  refine lv_sipush (v := 402) hx hb dX21_init_460 (by decide) ?_
  refine qh_newa (atype := .long) (ty := .long) (n := 402) (N' := 402) (a0 := (402, .inr (.inl (fun _ => 0)))) hx hb (hts (.arrayClass .long) (by decide +kernel)) rfl hK hP hD hS hA 1 rfl (qh_al 402) (by decide) (by decide) (by decide) (Nat.le_of_ble_eq_true rfl) (Nat.le_of_ble_eq_true rfl) dX21_init_463 (fun q_137 H hP hD hS => ?_)
  have hP := qh_frontP (o := (h0, .inr (26, fs_135))) (r := rt_136) (X := [(q_137, .inl (cJ, 402, .inr (.inl (fun _ => 0))))]) hP
  have hD := qh_frontD (o := (h0, .inr (26, fs_135))) (r := rt_136) (X := [(q_137, .inl (cJ, 402, .inr (.inl (fun _ => 0))))]) hD
  have hP : va_P (dC, dI) vwCl ((h0, .inr (26, fs_135)) :: (q_137, .inl (cJ, 402, .inr (.inl (fun _ => 0)))) :: rt_136 : va_W) H := hP
  have hD : va_D A ((h0, .inr (26, fs_135)) :: (q_137, .inl (cJ, 402, .inr (.inl (fun _ => 0)))) :: rt_136 : va_W) := hD
  refine va_putF (D := (dC, dI)) (fs := fs_135) (ci := 26) (v := .ref q_137) (ty := .array .long) (C := RX21) (T := TX21) (N := 95) hx hb hts qh_in21 tyX21 tyX21_ok nmX21 hown hK hP hD hS 0 rfl rfl 56 (by decide) (hts (.fieldLink RX21 168 "QueryHallModel" "tokenLow" "[J") (by decide +kernel)) (fun _ h9 => h9) rfl hin rfl (by decide +kernel) rfl rfl (by rw [hlfs_135]; decide) dX21_init_465 (fun H locs hP hD hS => ?_)
  have hP : va_P (dC, dI) vwCl ((h0, .inr (26, fs_135.set 56 (.ref q_137))) :: (q_137, .inl (cJ, 402, .inr (.inl (fun _ => 0)))) :: rt_136 : va_W) H := hP
  have hD : va_D A ((h0, .inr (26, fs_135.set 56 (.ref q_137))) :: (q_137, .inl (cJ, 402, .inr (.inl (fun _ => 0)))) :: rt_136 : va_W) := hD
  generalize hfs_138 : fs_135.set 56 (.ref q_137) = fs_138 at hP hD
  have hlfs_138 : fs_138.length = 95 := by rw [← hfs_138, List.length_set]; exact hlfs_135
  generalize hrt_139 : ((q_137, .inl (cJ, 402, .inr (.inl (fun _ => 0)))) :: rt_136 : va_W) = rt_139 at hP hD
  refine lv_aload_n hx hb dX21_init_468 rfl (lv_at hl 0 rfl) ?_
  refine lv_iconst (v := 3) hx hb dX21_init_469 (by decide) ?_
  refine lv_iconst (v := 3) hx hb dX21_init_470 (by decide) ?_
  refine qh_mna (own := RX21) (index := 32) (ty := .int) (cI := cI) (n := 3) (k := 3) (N' := 3) (K' := 3) (z := (3, .inl (fun _ => 0))) hx hb hown ((show ("[" ++ (FieldType.array .int).toString) = "[[I" by decide +kernel).symm ▸ hts (.classLink RX21 32 "[[I") (by decide +kernel)) hE2 (hts (.arrayClass .int) (by decide +kernel)) ((show (FieldType.array .int).toString = "[I" by decide +kernel) ▸ va_nm_int (hK.2 0 _ rfl).2) hK hP hD hS hA 5 rfl (by decide) (by decide) (by decide) (by decide) (by decide) (by decide) (by decide) rfl rfl (Nat.le_of_ble_eq_true rfl) (Nat.le_of_ble_eq_true rfl) (fun c => by show ({ cls := c, slots := Array.replicate 3 _, vm := .none } : Cell) = _; rw [arrV_new]; rfl) dX21_init_471 (fun q_140 r_141 H hP hD hS => ?_)
  rw [List.append_assoc] at hP hD
  have hP := qh_frontP (o := (h0, .inr (26, fs_138))) (r := rt_139) (X := [(q_140, .inl (cII, 3, .inr (.inr (.inr (.inr (fun i => if i < 3 then some (r_141 i) else none)))))), ((r_141 0), .inl (cI, 3, .inl (fun _ => 0))), ((r_141 1), .inl (cI, 3, .inl (fun _ => 0))), ((r_141 2), .inl (cI, 3, .inl (fun _ => 0)))]) hP
  have hD := qh_frontD (o := (h0, .inr (26, fs_138))) (r := rt_139) (X := [(q_140, .inl (cII, 3, .inr (.inr (.inr (.inr (fun i => if i < 3 then some (r_141 i) else none)))))), ((r_141 0), .inl (cI, 3, .inl (fun _ => 0))), ((r_141 1), .inl (cI, 3, .inl (fun _ => 0))), ((r_141 2), .inl (cI, 3, .inl (fun _ => 0)))]) hD
  have hP : va_P (dC, dI) vwCl ((h0, .inr (26, fs_138)) :: (q_140, .inl (cII, 3, .inr (.inr (.inr (.inr (fun i => if i < 3 then some (r_141 i) else none)))))) :: ((r_141 0), .inl (cI, 3, .inl (fun _ => 0))) :: ((r_141 1), .inl (cI, 3, .inl (fun _ => 0))) :: ((r_141 2), .inl (cI, 3, .inl (fun _ => 0))) :: rt_139 : va_W) H := hP
  have hD : va_D A ((h0, .inr (26, fs_138)) :: (q_140, .inl (cII, 3, .inr (.inr (.inr (.inr (fun i => if i < 3 then some (r_141 i) else none)))))) :: ((r_141 0), .inl (cI, 3, .inl (fun _ => 0))) :: ((r_141 1), .inl (cI, 3, .inl (fun _ => 0))) :: ((r_141 2), .inl (cI, 3, .inl (fun _ => 0))) :: rt_139 : va_W) := hD
  rw [qh_row3] at hP hD
  generalize r_141 0 = q_140_0 at hP hD
  generalize r_141 1 = q_140_1 at hP hD
  generalize r_141 2 = q_140_2 at hP hD
  have hP : va_P (dC, dI) vwCl ((h0, .inr (26, fs_138)) :: (q_140, .inl (cII, 3, .inr (.inr (.inr (.inr (fun i => [q_140_0, q_140_1, q_140_2][i]?)))))) :: (q_140_0, .inl (cI, 3, .inl (fun _ => 0))) :: (q_140_1, .inl (cI, 3, .inl (fun _ => 0))) :: (q_140_2, .inl (cI, 3, .inl (fun _ => 0))) :: rt_139 : va_W) H := hP
  have hD : va_D A ((h0, .inr (26, fs_138)) :: (q_140, .inl (cII, 3, .inr (.inr (.inr (.inr (fun i => [q_140_0, q_140_1, q_140_2][i]?)))))) :: (q_140_0, .inl (cI, 3, .inl (fun _ => 0))) :: (q_140_1, .inl (cI, 3, .inl (fun _ => 0))) :: (q_140_2, .inl (cI, 3, .inl (fun _ => 0))) :: rt_139 : va_W) := hD
  refine va_putF (D := (dC, dI)) (fs := fs_138) (ci := 26) (v := .ref q_140) (ty := .array (.array .int)) (C := RX21) (T := TX21) (N := 95) hx hb hts qh_in21 tyX21 tyX21_ok nmX21 hown hK hP hD hS 0 rfl rfl 69 (by decide) (hts (.fieldLink RX21 171 "QueryHallModel" "current" "[[I") (by decide +kernel)) (fun _ h9 => h9) rfl hin rfl (by decide +kernel) rfl rfl (by rw [hlfs_138]; decide) dX21_init_475 (fun H locs hP hD hS => ?_)
  have hP : va_P (dC, dI) vwCl ((h0, .inr (26, fs_138.set 69 (.ref q_140))) :: (q_140, .inl (cII, 3, .inr (.inr (.inr (.inr (fun i => [q_140_0, q_140_1, q_140_2][i]?)))))) :: (q_140_0, .inl (cI, 3, .inl (fun _ => 0))) :: (q_140_1, .inl (cI, 3, .inl (fun _ => 0))) :: (q_140_2, .inl (cI, 3, .inl (fun _ => 0))) :: rt_139 : va_W) H := hP
  have hD : va_D A ((h0, .inr (26, fs_138.set 69 (.ref q_140))) :: (q_140, .inl (cII, 3, .inr (.inr (.inr (.inr (fun i => [q_140_0, q_140_1, q_140_2][i]?)))))) :: (q_140_0, .inl (cI, 3, .inl (fun _ => 0))) :: (q_140_1, .inl (cI, 3, .inl (fun _ => 0))) :: (q_140_2, .inl (cI, 3, .inl (fun _ => 0))) :: rt_139 : va_W) := hD
  generalize hfs_142 : fs_138.set 69 (.ref q_140) = fs_142 at hP hD
  have hlfs_142 : fs_142.length = 95 := by rw [← hfs_142, List.length_set]; exact hlfs_138
  generalize hrt_143 : ((q_140, .inl (cII, 3, .inr (.inr (.inr (.inr (fun i => [q_140_0, q_140_1, q_140_2][i]?)))))) :: (q_140_0, .inl (cI, 3, .inl (fun _ => 0))) :: (q_140_1, .inl (cI, 3, .inl (fun _ => 0))) :: (q_140_2, .inl (cI, 3, .inl (fun _ => 0))) :: rt_139 : va_W) = rt_143 at hP hD
  refine lv_aload_n hx hb dX21_init_478 rfl (lv_at hl 0 rfl) ?_
  refine lv_iconst (v := 3) hx hb dX21_init_479 (by decide) ?_
  refine lv_sipush (v := 6003) hx hb dX21_init_480 (by decide) ?_
  refine qh_mna (own := RX21) (index := 32) (ty := .int) (cI := cI) (n := 3) (k := 6003) (N' := 3) (K' := 6003) (z := (6003, .inl (fun _ => 0))) hx hb hown ((show ("[" ++ (FieldType.array .int).toString) = "[[I" by decide +kernel).symm ▸ hts (.classLink RX21 32 "[[I") (by decide +kernel)) hE2 (hts (.arrayClass .int) (by decide +kernel)) ((show (FieldType.array .int).toString = "[I" by decide +kernel) ▸ va_nm_int (hK.2 0 _ rfl).2) hK hP hD hS hA 5 rfl (by decide) (by decide) (by decide) (by decide) (by decide) (by decide) (by decide) rfl rfl (Nat.le_of_ble_eq_true rfl) (Nat.le_of_ble_eq_true rfl) (fun c => by show ({ cls := c, slots := Array.replicate 6003 _, vm := .none } : Cell) = _; rw [arrV_new]; rfl) dX21_init_483 (fun q_144 r_145 H hP hD hS => ?_)
  rw [List.append_assoc] at hP hD
  have hP := qh_frontP (o := (h0, .inr (26, fs_142))) (r := rt_143) (X := [(q_144, .inl (cII, 3, .inr (.inr (.inr (.inr (fun i => if i < 3 then some (r_145 i) else none)))))), ((r_145 0), .inl (cI, 6003, .inl (fun _ => 0))), ((r_145 1), .inl (cI, 6003, .inl (fun _ => 0))), ((r_145 2), .inl (cI, 6003, .inl (fun _ => 0)))]) hP
  have hD := qh_frontD (o := (h0, .inr (26, fs_142))) (r := rt_143) (X := [(q_144, .inl (cII, 3, .inr (.inr (.inr (.inr (fun i => if i < 3 then some (r_145 i) else none)))))), ((r_145 0), .inl (cI, 6003, .inl (fun _ => 0))), ((r_145 1), .inl (cI, 6003, .inl (fun _ => 0))), ((r_145 2), .inl (cI, 6003, .inl (fun _ => 0)))]) hD
  have hP : va_P (dC, dI) vwCl ((h0, .inr (26, fs_142)) :: (q_144, .inl (cII, 3, .inr (.inr (.inr (.inr (fun i => if i < 3 then some (r_145 i) else none)))))) :: ((r_145 0), .inl (cI, 6003, .inl (fun _ => 0))) :: ((r_145 1), .inl (cI, 6003, .inl (fun _ => 0))) :: ((r_145 2), .inl (cI, 6003, .inl (fun _ => 0))) :: rt_143 : va_W) H := hP
  have hD : va_D A ((h0, .inr (26, fs_142)) :: (q_144, .inl (cII, 3, .inr (.inr (.inr (.inr (fun i => if i < 3 then some (r_145 i) else none)))))) :: ((r_145 0), .inl (cI, 6003, .inl (fun _ => 0))) :: ((r_145 1), .inl (cI, 6003, .inl (fun _ => 0))) :: ((r_145 2), .inl (cI, 6003, .inl (fun _ => 0))) :: rt_143 : va_W) := hD
  rw [qh_row3] at hP hD
  generalize r_145 0 = q_144_0 at hP hD
  generalize r_145 1 = q_144_1 at hP hD
  generalize r_145 2 = q_144_2 at hP hD
  have hP : va_P (dC, dI) vwCl ((h0, .inr (26, fs_142)) :: (q_144, .inl (cII, 3, .inr (.inr (.inr (.inr (fun i => [q_144_0, q_144_1, q_144_2][i]?)))))) :: (q_144_0, .inl (cI, 6003, .inl (fun _ => 0))) :: (q_144_1, .inl (cI, 6003, .inl (fun _ => 0))) :: (q_144_2, .inl (cI, 6003, .inl (fun _ => 0))) :: rt_143 : va_W) H := hP
  have hD : va_D A ((h0, .inr (26, fs_142)) :: (q_144, .inl (cII, 3, .inr (.inr (.inr (.inr (fun i => [q_144_0, q_144_1, q_144_2][i]?)))))) :: (q_144_0, .inl (cI, 6003, .inl (fun _ => 0))) :: (q_144_1, .inl (cI, 6003, .inl (fun _ => 0))) :: (q_144_2, .inl (cI, 6003, .inl (fun _ => 0))) :: rt_143 : va_W) := hD
  refine va_putF (D := (dC, dI)) (fs := fs_142) (ci := 26) (v := .ref q_144) (ty := .array (.array .int)) (C := RX21) (T := TX21) (N := 95) hx hb hts qh_in21 tyX21 tyX21_ok nmX21 hown hK hP hD hS 0 rfl rfl 70 (by decide) (hts (.fieldLink RX21 174 "QueryHallModel" "passed" "[[I") (by decide +kernel)) (fun _ h9 => h9) rfl hin rfl (by decide +kernel) rfl rfl (by rw [hlfs_142]; decide) dX21_init_487 (fun H locs hP hD hS => ?_)
  have hP : va_P (dC, dI) vwCl ((h0, .inr (26, fs_142.set 70 (.ref q_144))) :: (q_144, .inl (cII, 3, .inr (.inr (.inr (.inr (fun i => [q_144_0, q_144_1, q_144_2][i]?)))))) :: (q_144_0, .inl (cI, 6003, .inl (fun _ => 0))) :: (q_144_1, .inl (cI, 6003, .inl (fun _ => 0))) :: (q_144_2, .inl (cI, 6003, .inl (fun _ => 0))) :: rt_143 : va_W) H := hP
  have hD : va_D A ((h0, .inr (26, fs_142.set 70 (.ref q_144))) :: (q_144, .inl (cII, 3, .inr (.inr (.inr (.inr (fun i => [q_144_0, q_144_1, q_144_2][i]?)))))) :: (q_144_0, .inl (cI, 6003, .inl (fun _ => 0))) :: (q_144_1, .inl (cI, 6003, .inl (fun _ => 0))) :: (q_144_2, .inl (cI, 6003, .inl (fun _ => 0))) :: rt_143 : va_W) := hD
  generalize hfs_146 : fs_142.set 70 (.ref q_144) = fs_146 at hP hD
  have hlfs_146 : fs_146.length = 95 := by rw [← hfs_146, List.length_set]; exact hlfs_142
  generalize hrt_147 : ((q_144, .inl (cII, 3, .inr (.inr (.inr (.inr (fun i => [q_144_0, q_144_1, q_144_2][i]?)))))) :: (q_144_0, .inl (cI, 6003, .inl (fun _ => 0))) :: (q_144_1, .inl (cI, 6003, .inl (fun _ => 0))) :: (q_144_2, .inl (cI, 6003, .inl (fun _ => 0))) :: rt_143 : va_W) = rt_147 at hP hD
  subst hrt_147
  subst hrt_143
  subst hrt_139
  subst hrt_136
  subst hrt_133
  subst hrt_130
  subst hrt_127
  subst hrt_124
  clear hlfs_146
  clear hlfs_142
  clear hlfs_138
  clear hlfs_135
  clear hlfs_132
  clear hlfs_129
  clear hlfs_126
  clear hlfs_123
  subst hfs_146
  subst hfs_142
  subst hfs_138
  subst hfs_135
  subst hfs_132
  subst hfs_129
  subst hfs_126
  subst hfs_123
  have hP : va_P (dC, dI) vwCl ((h0, .inr (26, (((((((fs_0.set 49 (.ref q_122)).set 51 (.ref q_125)).set 53 (.ref q_128)).set 54 (.ref q_131)).set 55 (.ref q_134)).set 56 (.ref q_137)).set 69 (.ref q_140)).set 70 (.ref q_144))) :: (q_144, .inl (cII, 3, .inr (.inr (.inr (.inr (fun i => [q_144_0, q_144_1, q_144_2][i]?)))))) :: (q_144_0, .inl (cI, 6003, .inl (fun _ => 0))) :: (q_144_1, .inl (cI, 6003, .inl (fun _ => 0))) :: (q_144_2, .inl (cI, 6003, .inl (fun _ => 0))) :: (q_140, .inl (cII, 3, .inr (.inr (.inr (.inr (fun i => [q_140_0, q_140_1, q_140_2][i]?)))))) :: (q_140_0, .inl (cI, 3, .inl (fun _ => 0))) :: (q_140_1, .inl (cI, 3, .inl (fun _ => 0))) :: (q_140_2, .inl (cI, 3, .inl (fun _ => 0))) :: (q_137, .inl (cJ, 402, .inr (.inl (fun _ => 0)))) :: (q_134, .inl (cJ, 402, .inr (.inl (fun _ => 0)))) :: (q_131, .inl (cI, 402, .inl (fun _ => 0))) :: (q_128, .inl (cI, 402, .inl (fun _ => 0))) :: (q_125, .inl (cJ, 40, .inr (.inl (fun _ => 0)))) :: (q_122, .inl (cI, 64, .inl (fun _ => 0))) :: r0 : va_W) H := hP
  have hD : va_D A ((h0, .inr (26, (((((((fs_0.set 49 (.ref q_122)).set 51 (.ref q_125)).set 53 (.ref q_128)).set 54 (.ref q_131)).set 55 (.ref q_134)).set 56 (.ref q_137)).set 69 (.ref q_140)).set 70 (.ref q_144))) :: (q_144, .inl (cII, 3, .inr (.inr (.inr (.inr (fun i => [q_144_0, q_144_1, q_144_2][i]?)))))) :: (q_144_0, .inl (cI, 6003, .inl (fun _ => 0))) :: (q_144_1, .inl (cI, 6003, .inl (fun _ => 0))) :: (q_144_2, .inl (cI, 6003, .inl (fun _ => 0))) :: (q_140, .inl (cII, 3, .inr (.inr (.inr (.inr (fun i => [q_140_0, q_140_1, q_140_2][i]?)))))) :: (q_140_0, .inl (cI, 3, .inl (fun _ => 0))) :: (q_140_1, .inl (cI, 3, .inl (fun _ => 0))) :: (q_140_2, .inl (cI, 3, .inl (fun _ => 0))) :: (q_137, .inl (cJ, 402, .inr (.inl (fun _ => 0)))) :: (q_134, .inl (cJ, 402, .inr (.inl (fun _ => 0)))) :: (q_131, .inl (cI, 402, .inl (fun _ => 0))) :: (q_128, .inl (cI, 402, .inl (fun _ => 0))) :: (q_125, .inl (cJ, 40, .inr (.inl (fun _ => 0)))) :: (q_122, .inl (cI, 64, .inl (fun _ => 0))) :: r0 : va_W) := hD
  exact kk q_144 q_144_0 q_144_1 q_144_2 q_140 q_140_0 q_140_1 q_140_2 q_137 q_134 q_131 q_128 q_125 q_122 H locs hP hD hS
set_option maxHeartbeats 40000000 in
set_option maxRecDepth 100000 in
/-- the reference: QueryHallModel(), from 490 to 564 -/
theorem c_X21_init_490 {p : Program} {l : Launch} {e : Env} {s : State} {m : MethodId} {args : Array Value} {below : List Frame} {meth : Method} {c : Code} {H : Heap} {locs : List Loc} {Q : State → Prop} {A : Nat → Prop} {ls : Array Slot} (dC : Nat → ClassId) (dI : Nat → Nat → Nat) (cI cJ cB cZ cJJ cII cSt cLk : ClassId) (h0 ed ks vs n : Nat) (bf : Nat → Int32) (fs_0 : List Value) (hlfs_0 : fs_0.length = 95) (r0 : va_W) (hx : p.tables.exec = Jvm.exec) (hb : c.code = cX21_init) (hml : c.maxLocals = 7) (hts : ∀ w ∈ wsX21_init, w.before args s = true) (hown : s.vm.findClass RX21 = some m.cls) (hin : meth.name = "<init>") (hK : va_K (dC, dI) vwCl [(cI, .int), (cJ, .long), (cB, .byte), (cZ, .boolean), (cJJ, .array .long), (cII, .array .int), (cSt, .object RX20), (cLk, .object RX16)] s) (hA : ∀ q : Nat, s.heap.size ≤ q → A q) (hE0 : va_Z "java/util/ArrayList" "DEFAULTCAPACITY_EMPTY_ELEMENTDATA" "[Ljava/lang/Object;" (.ref ed) A s s.heap) (hE1 : va_AOA .long s) (hE2 : va_AOA .int s) (hE3 : va_AO RX20 s) (hE4 : va_AO RX16 s) (hE5 : vk_R RX21 240 "create table index on insert into values update set where delete from begin commit rollback number truth text not null select distinct left join group by having order desc or and is in true false count exists sum min max " ks s) (hE6 : va_Z "java/lang/String" "COMPACT_STRINGS" "Z" (.int 1) A s s.heap) (hE7 : va_OF "java/lang/String" "coder" "B" (.int 0) ks A s s.heap) (hE8 : va_OF "java/lang/String" "value" "[B" (.ref vs) ks A s s.heap) (hE9 : va_O "java/lang/String" ks A s s.heap) (hE10 : va_T .byte vs n (fun j => .int (bf j)) A s s.heap) (hE11 : va_Zq "jdk/internal/util/Preconditions" "SIOOBE_FORMATTER" "Ljava/util/function/BiFunction;" A s s.heap) (hl : lv_has ls 7 [(0, .ref h0)]) (hP : va_P (dC, dI) vwCl ((h0, .inr (26, fs_0)) :: r0 : va_W) H) (hD : va_D A ((h0, .inr (26, fs_0)) :: r0 : va_W)) (hS : va_S A s.heap H locs) (kk : ∀ (q_171 q_168 q_165 q_162 q_159 q_155 q_155_0 q_155_1 q_155_2 q_151 q_151_0 q_151_1 q_151_2 q_148 : Nat) (H : Heap) (locs : List Loc), va_P (dC, dI) vwCl ((h0, .inr (26, (((((((fs_0.set 71 (.ref q_148)).set 72 (.ref q_151)).set 73 (.ref q_155)).set 74 (.ref q_159)).set 75 (.ref q_162)).set 76 (.ref q_165)).set 77 (.ref q_168)).set 78 (.ref q_171))) :: (q_171, .inl (cI, 2001, .inl (fun _ => 0))) :: (q_168, .inl (cJ, 6003, .inr (.inl (fun _ => 0)))) :: (q_165, .inl (cJ, 6003, .inr (.inl (fun _ => 0)))) :: (q_162, .inl (cI, 6003, .inl (fun _ => 0))) :: (q_159, .inl (cI, 3, .inl (fun _ => 0))) :: (q_155, .inl (cII, 3, .inr (.inr (.inr (.inr (fun i => [q_155_0, q_155_1, q_155_2][i]?)))))) :: (q_155_0, .inl (cI, 2001, .inl (fun _ => 0))) :: (q_155_1, .inl (cI, 2001, .inl (fun _ => 0))) :: (q_155_2, .inl (cI, 2001, .inl (fun _ => 0))) :: (q_151, .inl (cII, 3, .inr (.inr (.inr (.inr (fun i => [q_151_0, q_151_1, q_151_2][i]?)))))) :: (q_151_0, .inl (cI, 2001, .inl (fun _ => 0))) :: (q_151_1, .inl (cI, 2001, .inl (fun _ => 0))) :: (q_151_2, .inl (cI, 2001, .inl (fun _ => 0))) :: (q_148, .inl (cI, 3, .inl (fun _ => 0))) :: r0 : va_W) H → va_D A ((h0, .inr (26, (((((((fs_0.set 71 (.ref q_148)).set 72 (.ref q_151)).set 73 (.ref q_155)).set 74 (.ref q_159)).set 75 (.ref q_162)).set 76 (.ref q_165)).set 77 (.ref q_168)).set 78 (.ref q_171))) :: (q_171, .inl (cI, 2001, .inl (fun _ => 0))) :: (q_168, .inl (cJ, 6003, .inr (.inl (fun _ => 0)))) :: (q_165, .inl (cJ, 6003, .inr (.inl (fun _ => 0)))) :: (q_162, .inl (cI, 6003, .inl (fun _ => 0))) :: (q_159, .inl (cI, 3, .inl (fun _ => 0))) :: (q_155, .inl (cII, 3, .inr (.inr (.inr (.inr (fun i => [q_155_0, q_155_1, q_155_2][i]?)))))) :: (q_155_0, .inl (cI, 2001, .inl (fun _ => 0))) :: (q_155_1, .inl (cI, 2001, .inl (fun _ => 0))) :: (q_155_2, .inl (cI, 2001, .inl (fun _ => 0))) :: (q_151, .inl (cII, 3, .inr (.inr (.inr (.inr (fun i => [q_151_0, q_151_1, q_151_2][i]?)))))) :: (q_151_0, .inl (cI, 2001, .inl (fun _ => 0))) :: (q_151_1, .inl (cI, 2001, .inl (fun _ => 0))) :: (q_151_2, .inl (cI, 2001, .inl (fun _ => 0))) :: (q_148, .inl (cI, 3, .inl (fun _ => 0))) :: r0 : va_W) → va_S A s.heap H locs → W p l e (headSpec wsX21_init { frames := 8, cells := 113, slots := 306930, locals := 300 }).room s m args below meth c H locs 100 268022 Q (F0 m 564 ls [])) : W p l e (headSpec wsX21_init { frames := 8, cells := 113, slots := 306930, locals := 300 }).room s m args below meth c H locs 86 235994 Q (F0 m 490 ls []) := by
  refine lv_aload_n hx hb dX21_init_490 rfl (lv_at hl 0 rfl) ?_
  refine lv_iconst (v := 3) hx hb dX21_init_491 (by decide) ?_
  refine qh_newa (atype := .int) (ty := .int) (n := 3) (N' := 3) (a0 := (3, .inl (fun _ => 0))) hx hb (hts (.arrayClass .int) (by decide +kernel)) rfl hK hP hD hS hA 0 rfl (qh_ai .int 3 rfl) (by decide) (by decide) (by decide) (Nat.le_of_ble_eq_true rfl) (Nat.le_of_ble_eq_true rfl) dX21_init_492 (fun q_148 H hP hD hS => ?_)
  have hP := qh_frontP (o := (h0, .inr (26, fs_0))) (r := r0) (X := [(q_148, .inl (cI, 3, .inl (fun _ => 0)))]) hP
  have hD := qh_frontD (o := (h0, .inr (26, fs_0))) (r := r0) (X := [(q_148, .inl (cI, 3, .inl (fun _ => 0)))]) hD
  have hP : va_P (dC, dI) vwCl ((h0, .inr (26, fs_0)) :: (q_148, .inl (cI, 3, .inl (fun _ => 0))) :: r0 : va_W) H := hP
  have hD : va_D A ((h0, .inr (26, fs_0)) :: (q_148, .inl (cI, 3, .inl (fun _ => 0))) :: r0 : va_W) := hD
  refine va_putF (D := (dC, dI)) (fs := fs_0) (ci := 26) (v := .ref q_148) (ty := .array .int) (C := RX21) (T := TX21) (N := 95) hx hb hts qh_in21 tyX21 tyX21_ok nmX21 hown hK hP hD hS 0 rfl rfl 71 (by decide) (hts (.fieldLink RX21 177 "QueryHallModel" "passedSize" "[I") (by decide +kernel)) (fun _ h9 => h9) rfl hin rfl (by decide +kernel) rfl rfl (by rw [hlfs_0]; decide) dX21_init_494 (fun H locs hP hD hS => ?_)
  have hP : va_P (dC, dI) vwCl ((h0, .inr (26, fs_0.set 71 (.ref q_148))) :: (q_148, .inl (cI, 3, .inl (fun _ => 0))) :: r0 : va_W) H := hP
  have hD : va_D A ((h0, .inr (26, fs_0.set 71 (.ref q_148))) :: (q_148, .inl (cI, 3, .inl (fun _ => 0))) :: r0 : va_W) := hD
  generalize hfs_149 : fs_0.set 71 (.ref q_148) = fs_149 at hP hD
  have hlfs_149 : fs_149.length = 95 := by rw [← hfs_149, List.length_set]; exact hlfs_0
  generalize hrt_150 : ((q_148, .inl (cI, 3, .inl (fun _ => 0))) :: r0 : va_W) = rt_150 at hP hD
  refine lv_aload_n hx hb dX21_init_497 rfl (lv_at hl 0 rfl) ?_
  refine lv_iconst (v := 3) hx hb dX21_init_498 (by decide) ?_
  refine lv_sipush (v := 2001) hx hb dX21_init_499 (by decide) ?_
  refine qh_mna (own := RX21) (index := 32) (ty := .int) (cI := cI) (n := 3) (k := 2001) (N' := 3) (K' := 2001) (z := (2001, .inl (fun _ => 0))) hx hb hown ((show ("[" ++ (FieldType.array .int).toString) = "[[I" by decide +kernel).symm ▸ hts (.classLink RX21 32 "[[I") (by decide +kernel)) hE2 (hts (.arrayClass .int) (by decide +kernel)) ((show (FieldType.array .int).toString = "[I" by decide +kernel) ▸ va_nm_int (hK.2 0 _ rfl).2) hK hP hD hS hA 5 rfl (by decide) (by decide) (by decide) (by decide) (by decide) (by decide) (by decide) rfl rfl (Nat.le_of_ble_eq_true rfl) (Nat.le_of_ble_eq_true rfl) (fun c => by show ({ cls := c, slots := Array.replicate 2001 _, vm := .none } : Cell) = _; rw [arrV_new]; rfl) dX21_init_502 (fun q_151 r_152 H hP hD hS => ?_)
  rw [List.append_assoc] at hP hD
  have hP := qh_frontP (o := (h0, .inr (26, fs_149))) (r := rt_150) (X := [(q_151, .inl (cII, 3, .inr (.inr (.inr (.inr (fun i => if i < 3 then some (r_152 i) else none)))))), ((r_152 0), .inl (cI, 2001, .inl (fun _ => 0))), ((r_152 1), .inl (cI, 2001, .inl (fun _ => 0))), ((r_152 2), .inl (cI, 2001, .inl (fun _ => 0)))]) hP
  have hD := qh_frontD (o := (h0, .inr (26, fs_149))) (r := rt_150) (X := [(q_151, .inl (cII, 3, .inr (.inr (.inr (.inr (fun i => if i < 3 then some (r_152 i) else none)))))), ((r_152 0), .inl (cI, 2001, .inl (fun _ => 0))), ((r_152 1), .inl (cI, 2001, .inl (fun _ => 0))), ((r_152 2), .inl (cI, 2001, .inl (fun _ => 0)))]) hD
  have hP : va_P (dC, dI) vwCl ((h0, .inr (26, fs_149)) :: (q_151, .inl (cII, 3, .inr (.inr (.inr (.inr (fun i => if i < 3 then some (r_152 i) else none)))))) :: ((r_152 0), .inl (cI, 2001, .inl (fun _ => 0))) :: ((r_152 1), .inl (cI, 2001, .inl (fun _ => 0))) :: ((r_152 2), .inl (cI, 2001, .inl (fun _ => 0))) :: rt_150 : va_W) H := hP
  have hD : va_D A ((h0, .inr (26, fs_149)) :: (q_151, .inl (cII, 3, .inr (.inr (.inr (.inr (fun i => if i < 3 then some (r_152 i) else none)))))) :: ((r_152 0), .inl (cI, 2001, .inl (fun _ => 0))) :: ((r_152 1), .inl (cI, 2001, .inl (fun _ => 0))) :: ((r_152 2), .inl (cI, 2001, .inl (fun _ => 0))) :: rt_150 : va_W) := hD
  rw [qh_row3] at hP hD
  generalize r_152 0 = q_151_0 at hP hD
  generalize r_152 1 = q_151_1 at hP hD
  generalize r_152 2 = q_151_2 at hP hD
  have hP : va_P (dC, dI) vwCl ((h0, .inr (26, fs_149)) :: (q_151, .inl (cII, 3, .inr (.inr (.inr (.inr (fun i => [q_151_0, q_151_1, q_151_2][i]?)))))) :: (q_151_0, .inl (cI, 2001, .inl (fun _ => 0))) :: (q_151_1, .inl (cI, 2001, .inl (fun _ => 0))) :: (q_151_2, .inl (cI, 2001, .inl (fun _ => 0))) :: rt_150 : va_W) H := hP
  have hD : va_D A ((h0, .inr (26, fs_149)) :: (q_151, .inl (cII, 3, .inr (.inr (.inr (.inr (fun i => [q_151_0, q_151_1, q_151_2][i]?)))))) :: (q_151_0, .inl (cI, 2001, .inl (fun _ => 0))) :: (q_151_1, .inl (cI, 2001, .inl (fun _ => 0))) :: (q_151_2, .inl (cI, 2001, .inl (fun _ => 0))) :: rt_150 : va_W) := hD
  refine va_putF (D := (dC, dI)) (fs := fs_149) (ci := 26) (v := .ref q_151) (ty := .array (.array .int)) (C := RX21) (T := TX21) (N := 95) hx hb hts qh_in21 tyX21 tyX21_ok nmX21 hown hK hP hD hS 0 rfl rfl 72 (by decide) (hts (.fieldLink RX21 180 "QueryHallModel" "unitOf" "[[I") (by decide +kernel)) (fun _ h9 => h9) rfl hin rfl (by decide +kernel) rfl rfl (by rw [hlfs_149]; decide) dX21_init_506 (fun H locs hP hD hS => ?_)
  have hP : va_P (dC, dI) vwCl ((h0, .inr (26, fs_149.set 72 (.ref q_151))) :: (q_151, .inl (cII, 3, .inr (.inr (.inr (.inr (fun i => [q_151_0, q_151_1, q_151_2][i]?)))))) :: (q_151_0, .inl (cI, 2001, .inl (fun _ => 0))) :: (q_151_1, .inl (cI, 2001, .inl (fun _ => 0))) :: (q_151_2, .inl (cI, 2001, .inl (fun _ => 0))) :: rt_150 : va_W) H := hP
  have hD : va_D A ((h0, .inr (26, fs_149.set 72 (.ref q_151))) :: (q_151, .inl (cII, 3, .inr (.inr (.inr (.inr (fun i => [q_151_0, q_151_1, q_151_2][i]?)))))) :: (q_151_0, .inl (cI, 2001, .inl (fun _ => 0))) :: (q_151_1, .inl (cI, 2001, .inl (fun _ => 0))) :: (q_151_2, .inl (cI, 2001, .inl (fun _ => 0))) :: rt_150 : va_W) := hD
  generalize hfs_153 : fs_149.set 72 (.ref q_151) = fs_153 at hP hD
  have hlfs_153 : fs_153.length = 95 := by rw [← hfs_153, List.length_set]; exact hlfs_149
  generalize hrt_154 : ((q_151, .inl (cII, 3, .inr (.inr (.inr (.inr (fun i => [q_151_0, q_151_1, q_151_2][i]?)))))) :: (q_151_0, .inl (cI, 2001, .inl (fun _ => 0))) :: (q_151_1, .inl (cI, 2001, .inl (fun _ => 0))) :: (q_151_2, .inl (cI, 2001, .inl (fun _ => 0))) :: rt_150 : va_W) = rt_154 at hP hD
  refine lv_aload_n hx hb dX21_init_509 rfl (lv_at hl 0 rfl) ?_
  refine lv_iconst (v := 3) hx hb dX21_init_510 (by decide) ?_
  refine lv_sipush (v := 2001) hx hb dX21_init_511 (by decide) ?_
  refine qh_mna (own := RX21) (index := 32) (ty := .int) (cI := cI) (n := 3) (k := 2001) (N' := 3) (K' := 2001) (z := (2001, .inl (fun _ => 0))) hx hb hown ((show ("[" ++ (FieldType.array .int).toString) = "[[I" by decide +kernel).symm ▸ hts (.classLink RX21 32 "[[I") (by decide +kernel)) hE2 (hts (.arrayClass .int) (by decide +kernel)) ((show (FieldType.array .int).toString = "[I" by decide +kernel) ▸ va_nm_int (hK.2 0 _ rfl).2) hK hP hD hS hA 5 rfl (by decide) (by decide) (by decide) (by decide) (by decide) (by decide) (by decide) rfl rfl (Nat.le_of_ble_eq_true rfl) (Nat.le_of_ble_eq_true rfl) (fun c => by show ({ cls := c, slots := Array.replicate 2001 _, vm := .none } : Cell) = _; rw [arrV_new]; rfl) dX21_init_514 (fun q_155 r_156 H hP hD hS => ?_)
  rw [List.append_assoc] at hP hD
  have hP := qh_frontP (o := (h0, .inr (26, fs_153))) (r := rt_154) (X := [(q_155, .inl (cII, 3, .inr (.inr (.inr (.inr (fun i => if i < 3 then some (r_156 i) else none)))))), ((r_156 0), .inl (cI, 2001, .inl (fun _ => 0))), ((r_156 1), .inl (cI, 2001, .inl (fun _ => 0))), ((r_156 2), .inl (cI, 2001, .inl (fun _ => 0)))]) hP
  have hD := qh_frontD (o := (h0, .inr (26, fs_153))) (r := rt_154) (X := [(q_155, .inl (cII, 3, .inr (.inr (.inr (.inr (fun i => if i < 3 then some (r_156 i) else none)))))), ((r_156 0), .inl (cI, 2001, .inl (fun _ => 0))), ((r_156 1), .inl (cI, 2001, .inl (fun _ => 0))), ((r_156 2), .inl (cI, 2001, .inl (fun _ => 0)))]) hD
  have hP : va_P (dC, dI) vwCl ((h0, .inr (26, fs_153)) :: (q_155, .inl (cII, 3, .inr (.inr (.inr (.inr (fun i => if i < 3 then some (r_156 i) else none)))))) :: ((r_156 0), .inl (cI, 2001, .inl (fun _ => 0))) :: ((r_156 1), .inl (cI, 2001, .inl (fun _ => 0))) :: ((r_156 2), .inl (cI, 2001, .inl (fun _ => 0))) :: rt_154 : va_W) H := hP
  have hD : va_D A ((h0, .inr (26, fs_153)) :: (q_155, .inl (cII, 3, .inr (.inr (.inr (.inr (fun i => if i < 3 then some (r_156 i) else none)))))) :: ((r_156 0), .inl (cI, 2001, .inl (fun _ => 0))) :: ((r_156 1), .inl (cI, 2001, .inl (fun _ => 0))) :: ((r_156 2), .inl (cI, 2001, .inl (fun _ => 0))) :: rt_154 : va_W) := hD
  rw [qh_row3] at hP hD
  generalize r_156 0 = q_155_0 at hP hD
  generalize r_156 1 = q_155_1 at hP hD
  generalize r_156 2 = q_155_2 at hP hD
  have hP : va_P (dC, dI) vwCl ((h0, .inr (26, fs_153)) :: (q_155, .inl (cII, 3, .inr (.inr (.inr (.inr (fun i => [q_155_0, q_155_1, q_155_2][i]?)))))) :: (q_155_0, .inl (cI, 2001, .inl (fun _ => 0))) :: (q_155_1, .inl (cI, 2001, .inl (fun _ => 0))) :: (q_155_2, .inl (cI, 2001, .inl (fun _ => 0))) :: rt_154 : va_W) H := hP
  have hD : va_D A ((h0, .inr (26, fs_153)) :: (q_155, .inl (cII, 3, .inr (.inr (.inr (.inr (fun i => [q_155_0, q_155_1, q_155_2][i]?)))))) :: (q_155_0, .inl (cI, 2001, .inl (fun _ => 0))) :: (q_155_1, .inl (cI, 2001, .inl (fun _ => 0))) :: (q_155_2, .inl (cI, 2001, .inl (fun _ => 0))) :: rt_154 : va_W) := hD
  refine va_putF (D := (dC, dI)) (fs := fs_153) (ci := 26) (v := .ref q_155) (ty := .array (.array .int)) (C := RX21) (T := TX21) (N := 95) hx hb hts qh_in21 tyX21 tyX21_ok nmX21 hown hK hP hD hS 0 rfl rfl 73 (by decide) (hts (.fieldLink RX21 183 "QueryHallModel" "unitFirst" "[[I") (by decide +kernel)) (fun _ h9 => h9) rfl hin rfl (by decide +kernel) rfl rfl (by rw [hlfs_153]; decide) dX21_init_518 (fun H locs hP hD hS => ?_)
  have hP : va_P (dC, dI) vwCl ((h0, .inr (26, fs_153.set 73 (.ref q_155))) :: (q_155, .inl (cII, 3, .inr (.inr (.inr (.inr (fun i => [q_155_0, q_155_1, q_155_2][i]?)))))) :: (q_155_0, .inl (cI, 2001, .inl (fun _ => 0))) :: (q_155_1, .inl (cI, 2001, .inl (fun _ => 0))) :: (q_155_2, .inl (cI, 2001, .inl (fun _ => 0))) :: rt_154 : va_W) H := hP
  have hD : va_D A ((h0, .inr (26, fs_153.set 73 (.ref q_155))) :: (q_155, .inl (cII, 3, .inr (.inr (.inr (.inr (fun i => [q_155_0, q_155_1, q_155_2][i]?)))))) :: (q_155_0, .inl (cI, 2001, .inl (fun _ => 0))) :: (q_155_1, .inl (cI, 2001, .inl (fun _ => 0))) :: (q_155_2, .inl (cI, 2001, .inl (fun _ => 0))) :: rt_154 : va_W) := hD
  generalize hfs_157 : fs_153.set 73 (.ref q_155) = fs_157 at hP hD
  have hlfs_157 : fs_157.length = 95 := by rw [← hfs_157, List.length_set]; exact hlfs_153
  generalize hrt_158 : ((q_155, .inl (cII, 3, .inr (.inr (.inr (.inr (fun i => [q_155_0, q_155_1, q_155_2][i]?)))))) :: (q_155_0, .inl (cI, 2001, .inl (fun _ => 0))) :: (q_155_1, .inl (cI, 2001, .inl (fun _ => 0))) :: (q_155_2, .inl (cI, 2001, .inl (fun _ => 0))) :: rt_154 : va_W) = rt_158 at hP hD
  refine lv_aload_n hx hb dX21_init_521 rfl (lv_at hl 0 rfl) ?_
  refine lv_iconst (v := 3) hx hb dX21_init_522 (by decide) ?_
  refine qh_newa (atype := .int) (ty := .int) (n := 3) (N' := 3) (a0 := (3, .inl (fun _ => 0))) hx hb (hts (.arrayClass .int) (by decide +kernel)) rfl hK hP hD hS hA 0 rfl (qh_ai .int 3 rfl) (by decide) (by decide) (by decide) (Nat.le_of_ble_eq_true rfl) (Nat.le_of_ble_eq_true rfl) dX21_init_523 (fun q_159 H hP hD hS => ?_)
  have hP := qh_frontP (o := (h0, .inr (26, fs_157))) (r := rt_158) (X := [(q_159, .inl (cI, 3, .inl (fun _ => 0)))]) hP
  have hD := qh_frontD (o := (h0, .inr (26, fs_157))) (r := rt_158) (X := [(q_159, .inl (cI, 3, .inl (fun _ => 0)))]) hD
  have hP : va_P (dC, dI) vwCl ((h0, .inr (26, fs_157)) :: (q_159, .inl (cI, 3, .inl (fun _ => 0))) :: rt_158 : va_W) H := hP
  have hD : va_D A ((h0, .inr (26, fs_157)) :: (q_159, .inl (cI, 3, .inl (fun _ => 0))) :: rt_158 : va_W) := hD
  refine va_putF (D := (dC, dI)) (fs := fs_157) (ci := 26) (v := .ref q_159) (ty := .array .int) (C := RX21) (T := TX21) (N := 95) hx hb hts qh_in21 tyX21 tyX21_ok nmX21 hown hK hP hD hS 0 rfl rfl 74 (by decide) (hts (.fieldLink RX21 186 "QueryHallModel" "unit" "[I") (by decide +kernel)) (fun _ h9 => h9) rfl hin rfl (by decide +kernel) rfl rfl (by rw [hlfs_157]; decide) dX21_init_525 (fun H locs hP hD hS => ?_)
  have hP : va_P (dC, dI) vwCl ((h0, .inr (26, fs_157.set 74 (.ref q_159))) :: (q_159, .inl (cI, 3, .inl (fun _ => 0))) :: rt_158 : va_W) H := hP
  have hD : va_D A ((h0, .inr (26, fs_157.set 74 (.ref q_159))) :: (q_159, .inl (cI, 3, .inl (fun _ => 0))) :: rt_158 : va_W) := hD
  generalize hfs_160 : fs_157.set 74 (.ref q_159) = fs_160 at hP hD
  have hlfs_160 : fs_160.length = 95 := by rw [← hfs_160, List.length_set]; exact hlfs_157
  generalize hrt_161 : ((q_159, .inl (cI, 3, .inl (fun _ => 0))) :: rt_158 : va_W) = rt_161 at hP hD
  refine lv_aload_n hx hb dX21_init_528 rfl (lv_at hl 0 rfl) ?_
  refine lv_sipush (v := 6003) hx hb dX21_init_529 (by decide) ?_
  refine qh_newa (atype := .int) (ty := .int) (n := 6003) (N' := 6003) (a0 := (6003, .inl (fun _ => 0))) hx hb (hts (.arrayClass .int) (by decide +kernel)) rfl hK hP hD hS hA 0 rfl (qh_ai .int 6003 rfl) (by decide) (by decide) (by decide) (Nat.le_of_ble_eq_true rfl) (Nat.le_of_ble_eq_true rfl) dX21_init_532 (fun q_162 H hP hD hS => ?_)
  have hP := qh_frontP (o := (h0, .inr (26, fs_160))) (r := rt_161) (X := [(q_162, .inl (cI, 6003, .inl (fun _ => 0)))]) hP
  have hD := qh_frontD (o := (h0, .inr (26, fs_160))) (r := rt_161) (X := [(q_162, .inl (cI, 6003, .inl (fun _ => 0)))]) hD
  have hP : va_P (dC, dI) vwCl ((h0, .inr (26, fs_160)) :: (q_162, .inl (cI, 6003, .inl (fun _ => 0))) :: rt_161 : va_W) H := hP
  have hD : va_D A ((h0, .inr (26, fs_160)) :: (q_162, .inl (cI, 6003, .inl (fun _ => 0))) :: rt_161 : va_W) := hD
  refine va_putF (D := (dC, dI)) (fs := fs_160) (ci := 26) (v := .ref q_162) (ty := .array .int) (C := RX21) (T := TX21) (N := 95) hx hb hts qh_in21 tyX21 tyX21_ok nmX21 hown hK hP hD hS 0 rfl rfl 75 (by decide) (hts (.fieldLink RX21 189 "QueryHallModel" "keyKinds" "[I") (by decide +kernel)) (fun _ h9 => h9) rfl hin rfl (by decide +kernel) rfl rfl (by rw [hlfs_160]; decide) dX21_init_534 (fun H locs hP hD hS => ?_)
  have hP : va_P (dC, dI) vwCl ((h0, .inr (26, fs_160.set 75 (.ref q_162))) :: (q_162, .inl (cI, 6003, .inl (fun _ => 0))) :: rt_161 : va_W) H := hP
  have hD : va_D A ((h0, .inr (26, fs_160.set 75 (.ref q_162))) :: (q_162, .inl (cI, 6003, .inl (fun _ => 0))) :: rt_161 : va_W) := hD
  generalize hfs_163 : fs_160.set 75 (.ref q_162) = fs_163 at hP hD
  have hlfs_163 : fs_163.length = 95 := by rw [← hfs_163, List.length_set]; exact hlfs_160
  generalize hrt_164 : ((q_162, .inl (cI, 6003, .inl (fun _ => 0))) :: rt_161 : va_W) = rt_164 at hP hD
  refine lv_aload_n hx hb dX21_init_537 rfl (lv_at hl 0 rfl) ?_
  refine lv_sipush (v := 6003) hx hb dX21_init_538 (by decide) ?_
  refine qh_newa (atype := .long) (ty := .long) (n := 6003) (N' := 6003) (a0 := (6003, .inr (.inl (fun _ => 0)))) hx hb (hts (.arrayClass .long) (by decide +kernel)) rfl hK hP hD hS hA 1 rfl (qh_al 6003) (by decide) (by decide) (by decide) (Nat.le_of_ble_eq_true rfl) (Nat.le_of_ble_eq_true rfl) dX21_init_541 (fun q_165 H hP hD hS => ?_)
  have hP := qh_frontP (o := (h0, .inr (26, fs_163))) (r := rt_164) (X := [(q_165, .inl (cJ, 6003, .inr (.inl (fun _ => 0))))]) hP
  have hD := qh_frontD (o := (h0, .inr (26, fs_163))) (r := rt_164) (X := [(q_165, .inl (cJ, 6003, .inr (.inl (fun _ => 0))))]) hD
  have hP : va_P (dC, dI) vwCl ((h0, .inr (26, fs_163)) :: (q_165, .inl (cJ, 6003, .inr (.inl (fun _ => 0)))) :: rt_164 : va_W) H := hP
  have hD : va_D A ((h0, .inr (26, fs_163)) :: (q_165, .inl (cJ, 6003, .inr (.inl (fun _ => 0)))) :: rt_164 : va_W) := hD
  refine va_putF (D := (dC, dI)) (fs := fs_163) (ci := 26) (v := .ref q_165) (ty := .array .long) (C := RX21) (T := TX21) (N := 95) hx hb hts qh_in21 tyX21 tyX21_ok nmX21 hown hK hP hD hS 0 rfl rfl 76 (by decide) (hts (.fieldLink RX21 192 "QueryHallModel" "keyHigh" "[J") (by decide +kernel)) (fun _ h9 => h9) rfl hin rfl (by decide +kernel) rfl rfl (by rw [hlfs_163]; decide) dX21_init_543 (fun H locs hP hD hS => ?_)
  have hP : va_P (dC, dI) vwCl ((h0, .inr (26, fs_163.set 76 (.ref q_165))) :: (q_165, .inl (cJ, 6003, .inr (.inl (fun _ => 0)))) :: rt_164 : va_W) H := hP
  have hD : va_D A ((h0, .inr (26, fs_163.set 76 (.ref q_165))) :: (q_165, .inl (cJ, 6003, .inr (.inl (fun _ => 0)))) :: rt_164 : va_W) := hD
  generalize hfs_166 : fs_163.set 76 (.ref q_165) = fs_166 at hP hD
  have hlfs_166 : fs_166.length = 95 := by rw [← hfs_166, List.length_set]; exact hlfs_163
  generalize hrt_167 : ((q_165, .inl (cJ, 6003, .inr (.inl (fun _ => 0)))) :: rt_164 : va_W) = rt_167 at hP hD
  refine lv_aload_n hx hb dX21_init_546 rfl (lv_at hl 0 rfl) ?_
  refine lv_sipush (v := 6003) hx hb dX21_init_547 (by decide) ?_
  refine qh_newa (atype := .long) (ty := .long) (n := 6003) (N' := 6003) (a0 := (6003, .inr (.inl (fun _ => 0)))) hx hb (hts (.arrayClass .long) (by decide +kernel)) rfl hK hP hD hS hA 1 rfl (qh_al 6003) (by decide) (by decide) (by decide) (Nat.le_of_ble_eq_true rfl) (Nat.le_of_ble_eq_true rfl) dX21_init_550 (fun q_168 H hP hD hS => ?_)
  have hP := qh_frontP (o := (h0, .inr (26, fs_166))) (r := rt_167) (X := [(q_168, .inl (cJ, 6003, .inr (.inl (fun _ => 0))))]) hP
  have hD := qh_frontD (o := (h0, .inr (26, fs_166))) (r := rt_167) (X := [(q_168, .inl (cJ, 6003, .inr (.inl (fun _ => 0))))]) hD
  have hP : va_P (dC, dI) vwCl ((h0, .inr (26, fs_166)) :: (q_168, .inl (cJ, 6003, .inr (.inl (fun _ => 0)))) :: rt_167 : va_W) H := hP
  have hD : va_D A ((h0, .inr (26, fs_166)) :: (q_168, .inl (cJ, 6003, .inr (.inl (fun _ => 0)))) :: rt_167 : va_W) := hD
  refine va_putF (D := (dC, dI)) (fs := fs_166) (ci := 26) (v := .ref q_168) (ty := .array .long) (C := RX21) (T := TX21) (N := 95) hx hb hts qh_in21 tyX21 tyX21_ok nmX21 hown hK hP hD hS 0 rfl rfl 77 (by decide) (hts (.fieldLink RX21 195 "QueryHallModel" "keyLow" "[J") (by decide +kernel)) (fun _ h9 => h9) rfl hin rfl (by decide +kernel) rfl rfl (by rw [hlfs_166]; decide) dX21_init_552 (fun H locs hP hD hS => ?_)
  have hP : va_P (dC, dI) vwCl ((h0, .inr (26, fs_166.set 77 (.ref q_168))) :: (q_168, .inl (cJ, 6003, .inr (.inl (fun _ => 0)))) :: rt_167 : va_W) H := hP
  have hD : va_D A ((h0, .inr (26, fs_166.set 77 (.ref q_168))) :: (q_168, .inl (cJ, 6003, .inr (.inl (fun _ => 0)))) :: rt_167 : va_W) := hD
  generalize hfs_169 : fs_166.set 77 (.ref q_168) = fs_169 at hP hD
  have hlfs_169 : fs_169.length = 95 := by rw [← hfs_169, List.length_set]; exact hlfs_166
  generalize hrt_170 : ((q_168, .inl (cJ, 6003, .inr (.inl (fun _ => 0)))) :: rt_167 : va_W) = rt_170 at hP hD
  refine lv_aload_n hx hb dX21_init_555 rfl (lv_at hl 0 rfl) ?_
  refine lv_sipush (v := 2001) hx hb dX21_init_556 (by decide) ?_
  refine qh_newa (atype := .int) (ty := .int) (n := 2001) (N' := 2001) (a0 := (2001, .inl (fun _ => 0))) hx hb (hts (.arrayClass .int) (by decide +kernel)) rfl hK hP hD hS hA 0 rfl (qh_ai .int 2001 rfl) (by decide) (by decide) (by decide) (Nat.le_of_ble_eq_true rfl) (Nat.le_of_ble_eq_true rfl) dX21_init_559 (fun q_171 H hP hD hS => ?_)
  have hP := qh_frontP (o := (h0, .inr (26, fs_169))) (r := rt_170) (X := [(q_171, .inl (cI, 2001, .inl (fun _ => 0)))]) hP
  have hD := qh_frontD (o := (h0, .inr (26, fs_169))) (r := rt_170) (X := [(q_171, .inl (cI, 2001, .inl (fun _ => 0)))]) hD
  have hP : va_P (dC, dI) vwCl ((h0, .inr (26, fs_169)) :: (q_171, .inl (cI, 2001, .inl (fun _ => 0))) :: rt_170 : va_W) H := hP
  have hD : va_D A ((h0, .inr (26, fs_169)) :: (q_171, .inl (cI, 2001, .inl (fun _ => 0))) :: rt_170 : va_W) := hD
  refine va_putF (D := (dC, dI)) (fs := fs_169) (ci := 26) (v := .ref q_171) (ty := .array .int) (C := RX21) (T := TX21) (N := 95) hx hb hts qh_in21 tyX21 tyX21_ok nmX21 hown hK hP hD hS 0 rfl rfl 78 (by decide) (hts (.fieldLink RX21 198 "QueryHallModel" "sorted" "[I") (by decide +kernel)) (fun _ h9 => h9) rfl hin rfl (by decide +kernel) rfl rfl (by rw [hlfs_169]; decide) dX21_init_561 (fun H locs hP hD hS => ?_)
  have hP : va_P (dC, dI) vwCl ((h0, .inr (26, fs_169.set 78 (.ref q_171))) :: (q_171, .inl (cI, 2001, .inl (fun _ => 0))) :: rt_170 : va_W) H := hP
  have hD : va_D A ((h0, .inr (26, fs_169.set 78 (.ref q_171))) :: (q_171, .inl (cI, 2001, .inl (fun _ => 0))) :: rt_170 : va_W) := hD
  generalize hfs_172 : fs_169.set 78 (.ref q_171) = fs_172 at hP hD
  have hlfs_172 : fs_172.length = 95 := by rw [← hfs_172, List.length_set]; exact hlfs_169
  generalize hrt_173 : ((q_171, .inl (cI, 2001, .inl (fun _ => 0))) :: rt_170 : va_W) = rt_173 at hP hD
  subst hrt_173
  subst hrt_170
  subst hrt_167
  subst hrt_164
  subst hrt_161
  subst hrt_158
  subst hrt_154
  subst hrt_150
  clear hlfs_172
  clear hlfs_169
  clear hlfs_166
  clear hlfs_163
  clear hlfs_160
  clear hlfs_157
  clear hlfs_153
  clear hlfs_149
  subst hfs_172
  subst hfs_169
  subst hfs_166
  subst hfs_163
  subst hfs_160
  subst hfs_157
  subst hfs_153
  subst hfs_149
  have hP : va_P (dC, dI) vwCl ((h0, .inr (26, (((((((fs_0.set 71 (.ref q_148)).set 72 (.ref q_151)).set 73 (.ref q_155)).set 74 (.ref q_159)).set 75 (.ref q_162)).set 76 (.ref q_165)).set 77 (.ref q_168)).set 78 (.ref q_171))) :: (q_171, .inl (cI, 2001, .inl (fun _ => 0))) :: (q_168, .inl (cJ, 6003, .inr (.inl (fun _ => 0)))) :: (q_165, .inl (cJ, 6003, .inr (.inl (fun _ => 0)))) :: (q_162, .inl (cI, 6003, .inl (fun _ => 0))) :: (q_159, .inl (cI, 3, .inl (fun _ => 0))) :: (q_155, .inl (cII, 3, .inr (.inr (.inr (.inr (fun i => [q_155_0, q_155_1, q_155_2][i]?)))))) :: (q_155_0, .inl (cI, 2001, .inl (fun _ => 0))) :: (q_155_1, .inl (cI, 2001, .inl (fun _ => 0))) :: (q_155_2, .inl (cI, 2001, .inl (fun _ => 0))) :: (q_151, .inl (cII, 3, .inr (.inr (.inr (.inr (fun i => [q_151_0, q_151_1, q_151_2][i]?)))))) :: (q_151_0, .inl (cI, 2001, .inl (fun _ => 0))) :: (q_151_1, .inl (cI, 2001, .inl (fun _ => 0))) :: (q_151_2, .inl (cI, 2001, .inl (fun _ => 0))) :: (q_148, .inl (cI, 3, .inl (fun _ => 0))) :: r0 : va_W) H := hP
  have hD : va_D A ((h0, .inr (26, (((((((fs_0.set 71 (.ref q_148)).set 72 (.ref q_151)).set 73 (.ref q_155)).set 74 (.ref q_159)).set 75 (.ref q_162)).set 76 (.ref q_165)).set 77 (.ref q_168)).set 78 (.ref q_171))) :: (q_171, .inl (cI, 2001, .inl (fun _ => 0))) :: (q_168, .inl (cJ, 6003, .inr (.inl (fun _ => 0)))) :: (q_165, .inl (cJ, 6003, .inr (.inl (fun _ => 0)))) :: (q_162, .inl (cI, 6003, .inl (fun _ => 0))) :: (q_159, .inl (cI, 3, .inl (fun _ => 0))) :: (q_155, .inl (cII, 3, .inr (.inr (.inr (.inr (fun i => [q_155_0, q_155_1, q_155_2][i]?)))))) :: (q_155_0, .inl (cI, 2001, .inl (fun _ => 0))) :: (q_155_1, .inl (cI, 2001, .inl (fun _ => 0))) :: (q_155_2, .inl (cI, 2001, .inl (fun _ => 0))) :: (q_151, .inl (cII, 3, .inr (.inr (.inr (.inr (fun i => [q_151_0, q_151_1, q_151_2][i]?)))))) :: (q_151_0, .inl (cI, 2001, .inl (fun _ => 0))) :: (q_151_1, .inl (cI, 2001, .inl (fun _ => 0))) :: (q_151_2, .inl (cI, 2001, .inl (fun _ => 0))) :: (q_148, .inl (cI, 3, .inl (fun _ => 0))) :: r0 : va_W) := hD
  exact kk q_171 q_168 q_165 q_162 q_159 q_155 q_155_0 q_155_1 q_155_2 q_151 q_151_0 q_151_1 q_151_2 q_148 H locs hP hD hS
set_option maxHeartbeats 40000000 in
set_option maxRecDepth 100000 in
/-- the reference: QueryHallModel(), from 564 to 632 -/
theorem c_X21_init_564 {p : Program} {l : Launch} {e : Env} {s : State} {m : MethodId} {args : Array Value} {below : List Frame} {meth : Method} {c : Code} {H : Heap} {locs : List Loc} {Q : State → Prop} {A : Nat → Prop} {ls : Array Slot} (dC : Nat → ClassId) (dI : Nat → Nat → Nat) (cI cJ cB cZ cJJ cII cSt cLk : ClassId) (h0 ed ks vs n : Nat) (bf : Nat → Int32) (fs_0 : List Value) (hlfs_0 : fs_0.length = 95) (r0 : va_W) (hx : p.tables.exec = Jvm.exec) (hb : c.code = cX21_init) (hml : c.maxLocals = 7) (hts : ∀ w ∈ wsX21_init, w.before args s = true) (hown : s.vm.findClass RX21 = some m.cls) (hin : meth.name = "<init>") (hK : va_K (dC, dI) vwCl [(cI, .int), (cJ, .long), (cB, .byte), (cZ, .boolean), (cJJ, .array .long), (cII, .array .int), (cSt, .object RX20), (cLk, .object RX16)] s) (hA : ∀ q : Nat, s.heap.size ≤ q → A q) (hE0 : va_Z "java/util/ArrayList" "DEFAULTCAPACITY_EMPTY_ELEMENTDATA" "[Ljava/lang/Object;" (.ref ed) A s s.heap) (hE1 : va_AOA .long s) (hE2 : va_AOA .int s) (hE3 : va_AO RX20 s) (hE4 : va_AO RX16 s) (hE5 : vk_R RX21 240 "create table index on insert into values update set where delete from begin commit rollback number truth text not null select distinct left join group by having order desc or and is in true false count exists sum min max " ks s) (hE6 : va_Z "java/lang/String" "COMPACT_STRINGS" "Z" (.int 1) A s s.heap) (hE7 : va_OF "java/lang/String" "coder" "B" (.int 0) ks A s s.heap) (hE8 : va_OF "java/lang/String" "value" "[B" (.ref vs) ks A s s.heap) (hE9 : va_O "java/lang/String" ks A s s.heap) (hE10 : va_T .byte vs n (fun j => .int (bf j)) A s s.heap) (hE11 : va_Zq "jdk/internal/util/Preconditions" "SIOOBE_FORMATTER" "Ljava/util/function/BiFunction;" A s s.heap) (hl : lv_has ls 7 [(0, .ref h0)]) (hP : va_P (dC, dI) vwCl ((h0, .inr (26, fs_0)) :: r0 : va_W) H) (hD : va_D A ((h0, .inr (26, fs_0)) :: r0 : va_W)) (hS : va_S A s.heap H locs) (kk : ∀ (q_195 q_192 q_189 q_186 q_183 q_180 q_177 q_174 : Nat) (H : Heap) (locs : List Loc), va_P (dC, dI) vwCl ((h0, .inr (26, (((((((fs_0.set 82 (.ref q_174)).set 83 (.ref q_177)).set 84 (.ref q_180)).set 85 (.ref q_183)).set 86 (.ref q_186)).set 87 (.ref q_189)).set 88 (.ref q_192)).set 89 (.ref q_195))) :: (q_195, .inl (cI, 2001, .inl (fun _ => 0))) :: (q_192, .inl (cJ, 6, .inr (.inl (fun _ => 0)))) :: (q_189, .inl (cJ, 6, .inr (.inl (fun _ => 0)))) :: (q_186, .inl (cI, 6, .inl (fun _ => 0))) :: (q_183, .inl (cZ, 24, .inl (fun _ => 0))) :: (q_180, .inl (cJ, 144, .inr (.inl (fun _ => 0)))) :: (q_177, .inl (cJ, 144, .inr (.inl (fun _ => 0)))) :: (q_174, .inl (cI, 144, .inl (fun _ => 0))) :: r0 : va_W) H → va_D A ((h0, .inr (26, (((((((fs_0.set 82 (.ref q_174)).set 83 (.ref q_177)).set 84 (.ref q_180)).set 85 (.ref q_183)).set 86 (.ref q_186)).set 87 (.ref q_189)).set 88 (.ref q_192)).set 89 (.ref q_195))) :: (q_195, .inl (cI, 2001, .inl (fun _ => 0))) :: (q_192, .inl (cJ, 6, .inr (.inl (fun _ => 0)))) :: (q_189, .inl (cJ, 6, .inr (.inl (fun _ => 0)))) :: (q_186, .inl (cI, 6, .inl (fun _ => 0))) :: (q_183, .inl (cZ, 24, .inl (fun _ => 0))) :: (q_180, .inl (cJ, 144, .inr (.inl (fun _ => 0)))) :: (q_177, .inl (cJ, 144, .inr (.inl (fun _ => 0)))) :: (q_174, .inl (cI, 144, .inl (fun _ => 0))) :: r0 : va_W) → va_S A s.heap H locs → W p l e (headSpec wsX21_init { frames := 8, cells := 113, slots := 306930, locals := 300 }).room s m args below meth c H locs 108 270497 Q (F0 m 632 ls [])) : W p l e (headSpec wsX21_init { frames := 8, cells := 113, slots := 306930, locals := 300 }).room s m args below meth c H locs 100 268022 Q (F0 m 564 ls []) := by
  refine lv_aload_n hx hb dX21_init_564 rfl (lv_at hl 0 rfl) ?_
  refine lv_sipush (v := 144) hx hb dX21_init_565 (by decide) ?_
  refine qh_newa (atype := .int) (ty := .int) (n := 144) (N' := 144) (a0 := (144, .inl (fun _ => 0))) hx hb (hts (.arrayClass .int) (by decide +kernel)) rfl hK hP hD hS hA 0 rfl (qh_ai .int 144 rfl) (by decide) (by decide) (by decide) (Nat.le_of_ble_eq_true rfl) (Nat.le_of_ble_eq_true rfl) dX21_init_568 (fun q_174 H hP hD hS => ?_)
  have hP := qh_frontP (o := (h0, .inr (26, fs_0))) (r := r0) (X := [(q_174, .inl (cI, 144, .inl (fun _ => 0)))]) hP
  have hD := qh_frontD (o := (h0, .inr (26, fs_0))) (r := r0) (X := [(q_174, .inl (cI, 144, .inl (fun _ => 0)))]) hD
  have hP : va_P (dC, dI) vwCl ((h0, .inr (26, fs_0)) :: (q_174, .inl (cI, 144, .inl (fun _ => 0))) :: r0 : va_W) H := hP
  have hD : va_D A ((h0, .inr (26, fs_0)) :: (q_174, .inl (cI, 144, .inl (fun _ => 0))) :: r0 : va_W) := hD
  refine va_putF (D := (dC, dI)) (fs := fs_0) (ci := 26) (v := .ref q_174) (ty := .array .int) (C := RX21) (T := TX21) (N := 95) hx hb hts qh_in21 tyX21 tyX21_ok nmX21 hown hK hP hD hS 0 rfl rfl 82 (by decide) (hts (.fieldLink RX21 201 "QueryHallModel" "newKinds" "[I") (by decide +kernel)) (fun _ h9 => h9) rfl hin rfl (by decide +kernel) rfl rfl (by rw [hlfs_0]; decide) dX21_init_570 (fun H locs hP hD hS => ?_)
  have hP : va_P (dC, dI) vwCl ((h0, .inr (26, fs_0.set 82 (.ref q_174))) :: (q_174, .inl (cI, 144, .inl (fun _ => 0))) :: r0 : va_W) H := hP
  have hD : va_D A ((h0, .inr (26, fs_0.set 82 (.ref q_174))) :: (q_174, .inl (cI, 144, .inl (fun _ => 0))) :: r0 : va_W) := hD
  generalize hfs_175 : fs_0.set 82 (.ref q_174) = fs_175 at hP hD
  have hlfs_175 : fs_175.length = 95 := by rw [← hfs_175, List.length_set]; exact hlfs_0
  generalize hrt_176 : ((q_174, .inl (cI, 144, .inl (fun _ => 0))) :: r0 : va_W) = rt_176 at hP hD
  refine lv_aload_n hx hb dX21_init_573 rfl (lv_at hl 0 rfl) ?_
  refine lv_sipush (v := 144) hx hb dX21_init_574 (by decide) ?_
  refine qh_newa (atype := .long) (ty := .long) (n := 144) (N' := 144) (a0 := (144, .inr (.inl (fun _ => 0)))) hx hb (hts (.arrayClass .long) (by decide +kernel)) rfl hK hP hD hS hA 1 rfl (qh_al 144) (by decide) (by decide) (by decide) (Nat.le_of_ble_eq_true rfl) (Nat.le_of_ble_eq_true rfl) dX21_init_577 (fun q_177 H hP hD hS => ?_)
  have hP := qh_frontP (o := (h0, .inr (26, fs_175))) (r := rt_176) (X := [(q_177, .inl (cJ, 144, .inr (.inl (fun _ => 0))))]) hP
  have hD := qh_frontD (o := (h0, .inr (26, fs_175))) (r := rt_176) (X := [(q_177, .inl (cJ, 144, .inr (.inl (fun _ => 0))))]) hD
  have hP : va_P (dC, dI) vwCl ((h0, .inr (26, fs_175)) :: (q_177, .inl (cJ, 144, .inr (.inl (fun _ => 0)))) :: rt_176 : va_W) H := hP
  have hD : va_D A ((h0, .inr (26, fs_175)) :: (q_177, .inl (cJ, 144, .inr (.inl (fun _ => 0)))) :: rt_176 : va_W) := hD
  refine va_putF (D := (dC, dI)) (fs := fs_175) (ci := 26) (v := .ref q_177) (ty := .array .long) (C := RX21) (T := TX21) (N := 95) hx hb hts qh_in21 tyX21 tyX21_ok nmX21 hown hK hP hD hS 0 rfl rfl 83 (by decide) (hts (.fieldLink RX21 204 "QueryHallModel" "newHigh" "[J") (by decide +kernel)) (fun _ h9 => h9) rfl hin rfl (by decide +kernel) rfl rfl (by rw [hlfs_175]; decide) dX21_init_579 (fun H locs hP hD hS => ?_)
  have hP : va_P (dC, dI) vwCl ((h0, .inr (26, fs_175.set 83 (.ref q_177))) :: (q_177, .inl (cJ, 144, .inr (.inl (fun _ => 0)))) :: rt_176 : va_W) H := hP
  have hD : va_D A ((h0, .inr (26, fs_175.set 83 (.ref q_177))) :: (q_177, .inl (cJ, 144, .inr (.inl (fun _ => 0)))) :: rt_176 : va_W) := hD
  generalize hfs_178 : fs_175.set 83 (.ref q_177) = fs_178 at hP hD
  have hlfs_178 : fs_178.length = 95 := by rw [← hfs_178, List.length_set]; exact hlfs_175
  generalize hrt_179 : ((q_177, .inl (cJ, 144, .inr (.inl (fun _ => 0)))) :: rt_176 : va_W) = rt_179 at hP hD
  refine lv_aload_n hx hb dX21_init_582 rfl (lv_at hl 0 rfl) ?_
  refine lv_sipush (v := 144) hx hb dX21_init_583 (by decide) ?_
  refine qh_newa (atype := .long) (ty := .long) (n := 144) (N' := 144) (a0 := (144, .inr (.inl (fun _ => 0)))) hx hb (hts (.arrayClass .long) (by decide +kernel)) rfl hK hP hD hS hA 1 rfl (qh_al 144) (by decide) (by decide) (by decide) (Nat.le_of_ble_eq_true rfl) (Nat.le_of_ble_eq_true rfl) dX21_init_586 (fun q_180 H hP hD hS => ?_)
  have hP := qh_frontP (o := (h0, .inr (26, fs_178))) (r := rt_179) (X := [(q_180, .inl (cJ, 144, .inr (.inl (fun _ => 0))))]) hP
  have hD := qh_frontD (o := (h0, .inr (26, fs_178))) (r := rt_179) (X := [(q_180, .inl (cJ, 144, .inr (.inl (fun _ => 0))))]) hD
  have hP : va_P (dC, dI) vwCl ((h0, .inr (26, fs_178)) :: (q_180, .inl (cJ, 144, .inr (.inl (fun _ => 0)))) :: rt_179 : va_W) H := hP
  have hD : va_D A ((h0, .inr (26, fs_178)) :: (q_180, .inl (cJ, 144, .inr (.inl (fun _ => 0)))) :: rt_179 : va_W) := hD
  refine va_putF (D := (dC, dI)) (fs := fs_178) (ci := 26) (v := .ref q_180) (ty := .array .long) (C := RX21) (T := TX21) (N := 95) hx hb hts qh_in21 tyX21 tyX21_ok nmX21 hown hK hP hD hS 0 rfl rfl 84 (by decide) (hts (.fieldLink RX21 207 "QueryHallModel" "newLow" "[J") (by decide +kernel)) (fun _ h9 => h9) rfl hin rfl (by decide +kernel) rfl rfl (by rw [hlfs_178]; decide) dX21_init_588 (fun H locs hP hD hS => ?_)
  have hP : va_P (dC, dI) vwCl ((h0, .inr (26, fs_178.set 84 (.ref q_180))) :: (q_180, .inl (cJ, 144, .inr (.inl (fun _ => 0)))) :: rt_179 : va_W) H := hP
  have hD : va_D A ((h0, .inr (26, fs_178.set 84 (.ref q_180))) :: (q_180, .inl (cJ, 144, .inr (.inl (fun _ => 0)))) :: rt_179 : va_W) := hD
  generalize hfs_181 : fs_178.set 84 (.ref q_180) = fs_181 at hP hD
  have hlfs_181 : fs_181.length = 95 := by rw [← hfs_181, List.length_set]; exact hlfs_178
  generalize hrt_182 : ((q_180, .inl (cJ, 144, .inr (.inl (fun _ => 0)))) :: rt_179 : va_W) = rt_182 at hP hD
  refine lv_aload_n hx hb dX21_init_591 rfl (lv_at hl 0 rfl) ?_
  refine lv_bipush (v := 24) hx hb dX21_init_592 (by decide) ?_
  refine qh_newa (atype := .boolean) (ty := .boolean) (n := 24) (N' := 24) (a0 := (24, .inl (fun _ => 0))) hx hb (hts (.arrayClass .boolean) (by decide +kernel)) rfl hK hP hD hS hA 3 rfl (qh_ai .boolean 24 rfl) (by decide) (by decide) (by decide) (Nat.le_of_ble_eq_true rfl) (Nat.le_of_ble_eq_true rfl) dX21_init_594 (fun q_183 H hP hD hS => ?_)
  have hP := qh_frontP (o := (h0, .inr (26, fs_181))) (r := rt_182) (X := [(q_183, .inl (cZ, 24, .inl (fun _ => 0)))]) hP
  have hD := qh_frontD (o := (h0, .inr (26, fs_181))) (r := rt_182) (X := [(q_183, .inl (cZ, 24, .inl (fun _ => 0)))]) hD
  have hP : va_P (dC, dI) vwCl ((h0, .inr (26, fs_181)) :: (q_183, .inl (cZ, 24, .inl (fun _ => 0))) :: rt_182 : va_W) H := hP
  have hD : va_D A ((h0, .inr (26, fs_181)) :: (q_183, .inl (cZ, 24, .inl (fun _ => 0))) :: rt_182 : va_W) := hD
  refine va_putF (D := (dC, dI)) (fs := fs_181) (ci := 26) (v := .ref q_183) (ty := .array .boolean) (C := RX21) (T := TX21) (N := 95) hx hb hts qh_in21 tyX21 tyX21_ok nmX21 hown hK hP hD hS 0 rfl rfl 85 (by decide) (hts (.fieldLink RX21 210 "QueryHallModel" "marked" "[Z") (by decide +kernel)) (fun _ h9 => h9) rfl hin rfl (by decide +kernel) rfl rfl (by rw [hlfs_181]; decide) dX21_init_596 (fun H locs hP hD hS => ?_)
  have hP : va_P (dC, dI) vwCl ((h0, .inr (26, fs_181.set 85 (.ref q_183))) :: (q_183, .inl (cZ, 24, .inl (fun _ => 0))) :: rt_182 : va_W) H := hP
  have hD : va_D A ((h0, .inr (26, fs_181.set 85 (.ref q_183))) :: (q_183, .inl (cZ, 24, .inl (fun _ => 0))) :: rt_182 : va_W) := hD
  generalize hfs_184 : fs_181.set 85 (.ref q_183) = fs_184 at hP hD
  have hlfs_184 : fs_184.length = 95 := by rw [← hfs_184, List.length_set]; exact hlfs_181
  generalize hrt_185 : ((q_183, .inl (cZ, 24, .inl (fun _ => 0))) :: rt_182 : va_W) = rt_185 at hP hD
  refine lv_aload_n hx hb dX21_init_599 rfl (lv_at hl 0 rfl) ?_
  refine lv_bipush (v := 6) hx hb dX21_init_600 (by decide) ?_
  refine qh_newa (atype := .int) (ty := .int) (n := 6) (N' := 6) (a0 := (6, .inl (fun _ => 0))) hx hb (hts (.arrayClass .int) (by decide +kernel)) rfl hK hP hD hS hA 0 rfl (qh_ai .int 6 rfl) (by decide) (by decide) (by decide) (Nat.le_of_ble_eq_true rfl) (Nat.le_of_ble_eq_true rfl) dX21_init_602 (fun q_186 H hP hD hS => ?_)
  have hP := qh_frontP (o := (h0, .inr (26, fs_184))) (r := rt_185) (X := [(q_186, .inl (cI, 6, .inl (fun _ => 0)))]) hP
  have hD := qh_frontD (o := (h0, .inr (26, fs_184))) (r := rt_185) (X := [(q_186, .inl (cI, 6, .inl (fun _ => 0)))]) hD
  have hP : va_P (dC, dI) vwCl ((h0, .inr (26, fs_184)) :: (q_186, .inl (cI, 6, .inl (fun _ => 0))) :: rt_185 : va_W) H := hP
  have hD : va_D A ((h0, .inr (26, fs_184)) :: (q_186, .inl (cI, 6, .inl (fun _ => 0))) :: rt_185 : va_W) := hD
  refine va_putF (D := (dC, dI)) (fs := fs_184) (ci := 26) (v := .ref q_186) (ty := .array .int) (C := RX21) (T := TX21) (N := 95) hx hb hts qh_in21 tyX21 tyX21_ok nmX21 hown hK hP hD hS 0 rfl rfl 86 (by decide) (hts (.fieldLink RX21 213 "QueryHallModel" "oneKind" "[I") (by decide +kernel)) (fun _ h9 => h9) rfl hin rfl (by decide +kernel) rfl rfl (by rw [hlfs_184]; decide) dX21_init_604 (fun H locs hP hD hS => ?_)
  have hP : va_P (dC, dI) vwCl ((h0, .inr (26, fs_184.set 86 (.ref q_186))) :: (q_186, .inl (cI, 6, .inl (fun _ => 0))) :: rt_185 : va_W) H := hP
  have hD : va_D A ((h0, .inr (26, fs_184.set 86 (.ref q_186))) :: (q_186, .inl (cI, 6, .inl (fun _ => 0))) :: rt_185 : va_W) := hD
  generalize hfs_187 : fs_184.set 86 (.ref q_186) = fs_187 at hP hD
  have hlfs_187 : fs_187.length = 95 := by rw [← hfs_187, List.length_set]; exact hlfs_184
  generalize hrt_188 : ((q_186, .inl (cI, 6, .inl (fun _ => 0))) :: rt_185 : va_W) = rt_188 at hP hD
  refine lv_aload_n hx hb dX21_init_607 rfl (lv_at hl 0 rfl) ?_
  refine lv_bipush (v := 6) hx hb dX21_init_608 (by decide) ?_
  refine qh_newa (atype := .long) (ty := .long) (n := 6) (N' := 6) (a0 := (6, .inr (.inl (fun _ => 0)))) hx hb (hts (.arrayClass .long) (by decide +kernel)) rfl hK hP hD hS hA 1 rfl (qh_al 6) (by decide) (by decide) (by decide) (Nat.le_of_ble_eq_true rfl) (Nat.le_of_ble_eq_true rfl) dX21_init_610 (fun q_189 H hP hD hS => ?_)
  have hP := qh_frontP (o := (h0, .inr (26, fs_187))) (r := rt_188) (X := [(q_189, .inl (cJ, 6, .inr (.inl (fun _ => 0))))]) hP
  have hD := qh_frontD (o := (h0, .inr (26, fs_187))) (r := rt_188) (X := [(q_189, .inl (cJ, 6, .inr (.inl (fun _ => 0))))]) hD
  have hP : va_P (dC, dI) vwCl ((h0, .inr (26, fs_187)) :: (q_189, .inl (cJ, 6, .inr (.inl (fun _ => 0)))) :: rt_188 : va_W) H := hP
  have hD : va_D A ((h0, .inr (26, fs_187)) :: (q_189, .inl (cJ, 6, .inr (.inl (fun _ => 0)))) :: rt_188 : va_W) := hD
  refine va_putF (D := (dC, dI)) (fs := fs_187) (ci := 26) (v := .ref q_189) (ty := .array .long) (C := RX21) (T := TX21) (N := 95) hx hb hts qh_in21 tyX21 tyX21_ok nmX21 hown hK hP hD hS 0 rfl rfl 87 (by decide) (hts (.fieldLink RX21 216 "QueryHallModel" "oneHigh" "[J") (by decide +kernel)) (fun _ h9 => h9) rfl hin rfl (by decide +kernel) rfl rfl (by rw [hlfs_187]; decide) dX21_init_612 (fun H locs hP hD hS => ?_)
  have hP : va_P (dC, dI) vwCl ((h0, .inr (26, fs_187.set 87 (.ref q_189))) :: (q_189, .inl (cJ, 6, .inr (.inl (fun _ => 0)))) :: rt_188 : va_W) H := hP
  have hD : va_D A ((h0, .inr (26, fs_187.set 87 (.ref q_189))) :: (q_189, .inl (cJ, 6, .inr (.inl (fun _ => 0)))) :: rt_188 : va_W) := hD
  generalize hfs_190 : fs_187.set 87 (.ref q_189) = fs_190 at hP hD
  have hlfs_190 : fs_190.length = 95 := by rw [← hfs_190, List.length_set]; exact hlfs_187
  generalize hrt_191 : ((q_189, .inl (cJ, 6, .inr (.inl (fun _ => 0)))) :: rt_188 : va_W) = rt_191 at hP hD
  refine lv_aload_n hx hb dX21_init_615 rfl (lv_at hl 0 rfl) ?_
  refine lv_bipush (v := 6) hx hb dX21_init_616 (by decide) ?_
  refine qh_newa (atype := .long) (ty := .long) (n := 6) (N' := 6) (a0 := (6, .inr (.inl (fun _ => 0)))) hx hb (hts (.arrayClass .long) (by decide +kernel)) rfl hK hP hD hS hA 1 rfl (qh_al 6) (by decide) (by decide) (by decide) (Nat.le_of_ble_eq_true rfl) (Nat.le_of_ble_eq_true rfl) dX21_init_618 (fun q_192 H hP hD hS => ?_)
  have hP := qh_frontP (o := (h0, .inr (26, fs_190))) (r := rt_191) (X := [(q_192, .inl (cJ, 6, .inr (.inl (fun _ => 0))))]) hP
  have hD := qh_frontD (o := (h0, .inr (26, fs_190))) (r := rt_191) (X := [(q_192, .inl (cJ, 6, .inr (.inl (fun _ => 0))))]) hD
  have hP : va_P (dC, dI) vwCl ((h0, .inr (26, fs_190)) :: (q_192, .inl (cJ, 6, .inr (.inl (fun _ => 0)))) :: rt_191 : va_W) H := hP
  have hD : va_D A ((h0, .inr (26, fs_190)) :: (q_192, .inl (cJ, 6, .inr (.inl (fun _ => 0)))) :: rt_191 : va_W) := hD
  refine va_putF (D := (dC, dI)) (fs := fs_190) (ci := 26) (v := .ref q_192) (ty := .array .long) (C := RX21) (T := TX21) (N := 95) hx hb hts qh_in21 tyX21 tyX21_ok nmX21 hown hK hP hD hS 0 rfl rfl 88 (by decide) (hts (.fieldLink RX21 219 "QueryHallModel" "oneLow" "[J") (by decide +kernel)) (fun _ h9 => h9) rfl hin rfl (by decide +kernel) rfl rfl (by rw [hlfs_190]; decide) dX21_init_620 (fun H locs hP hD hS => ?_)
  have hP : va_P (dC, dI) vwCl ((h0, .inr (26, fs_190.set 88 (.ref q_192))) :: (q_192, .inl (cJ, 6, .inr (.inl (fun _ => 0)))) :: rt_191 : va_W) H := hP
  have hD : va_D A ((h0, .inr (26, fs_190.set 88 (.ref q_192))) :: (q_192, .inl (cJ, 6, .inr (.inl (fun _ => 0)))) :: rt_191 : va_W) := hD
  generalize hfs_193 : fs_190.set 88 (.ref q_192) = fs_193 at hP hD
  have hlfs_193 : fs_193.length = 95 := by rw [← hfs_193, List.length_set]; exact hlfs_190
  generalize hrt_194 : ((q_192, .inl (cJ, 6, .inr (.inl (fun _ => 0)))) :: rt_191 : va_W) = rt_194 at hP hD
  refine lv_aload_n hx hb dX21_init_623 rfl (lv_at hl 0 rfl) ?_
  refine lv_sipush (v := 2001) hx hb dX21_init_624 (by decide) ?_
  refine qh_newa (atype := .int) (ty := .int) (n := 2001) (N' := 2001) (a0 := (2001, .inl (fun _ => 0))) hx hb (hts (.arrayClass .int) (by decide +kernel)) rfl hK hP hD hS hA 0 rfl (qh_ai .int 2001 rfl) (by decide) (by decide) (by decide) (Nat.le_of_ble_eq_true rfl) (Nat.le_of_ble_eq_true rfl) dX21_init_627 (fun q_195 H hP hD hS => ?_)
  have hP := qh_frontP (o := (h0, .inr (26, fs_193))) (r := rt_194) (X := [(q_195, .inl (cI, 2001, .inl (fun _ => 0)))]) hP
  have hD := qh_frontD (o := (h0, .inr (26, fs_193))) (r := rt_194) (X := [(q_195, .inl (cI, 2001, .inl (fun _ => 0)))]) hD
  have hP : va_P (dC, dI) vwCl ((h0, .inr (26, fs_193)) :: (q_195, .inl (cI, 2001, .inl (fun _ => 0))) :: rt_194 : va_W) H := hP
  have hD : va_D A ((h0, .inr (26, fs_193)) :: (q_195, .inl (cI, 2001, .inl (fun _ => 0))) :: rt_194 : va_W) := hD
  refine va_putF (D := (dC, dI)) (fs := fs_193) (ci := 26) (v := .ref q_195) (ty := .array .int) (C := RX21) (T := TX21) (N := 95) hx hb hts qh_in21 tyX21 tyX21_ok nmX21 hown hK hP hD hS 0 rfl rfl 89 (by decide) (hts (.fieldLink RX21 222 "QueryHallModel" "unitAt" "[I") (by decide +kernel)) (fun _ h9 => h9) rfl hin rfl (by decide +kernel) rfl rfl (by rw [hlfs_193]; decide) dX21_init_629 (fun H locs hP hD hS => ?_)
  have hP : va_P (dC, dI) vwCl ((h0, .inr (26, fs_193.set 89 (.ref q_195))) :: (q_195, .inl (cI, 2001, .inl (fun _ => 0))) :: rt_194 : va_W) H := hP
  have hD : va_D A ((h0, .inr (26, fs_193.set 89 (.ref q_195))) :: (q_195, .inl (cI, 2001, .inl (fun _ => 0))) :: rt_194 : va_W) := hD
  generalize hfs_196 : fs_193.set 89 (.ref q_195) = fs_196 at hP hD
  have hlfs_196 : fs_196.length = 95 := by rw [← hfs_196, List.length_set]; exact hlfs_193
  generalize hrt_197 : ((q_195, .inl (cI, 2001, .inl (fun _ => 0))) :: rt_194 : va_W) = rt_197 at hP hD
  subst hrt_197
  subst hrt_194
  subst hrt_191
  subst hrt_188
  subst hrt_185
  subst hrt_182
  subst hrt_179
  subst hrt_176
  clear hlfs_196
  clear hlfs_193
  clear hlfs_190
  clear hlfs_187
  clear hlfs_184
  clear hlfs_181
  clear hlfs_178
  clear hlfs_175
  subst hfs_196
  subst hfs_193
  subst hfs_190
  subst hfs_187
  subst hfs_184
  subst hfs_181
  subst hfs_178
  subst hfs_175
  have hP : va_P (dC, dI) vwCl ((h0, .inr (26, (((((((fs_0.set 82 (.ref q_174)).set 83 (.ref q_177)).set 84 (.ref q_180)).set 85 (.ref q_183)).set 86 (.ref q_186)).set 87 (.ref q_189)).set 88 (.ref q_192)).set 89 (.ref q_195))) :: (q_195, .inl (cI, 2001, .inl (fun _ => 0))) :: (q_192, .inl (cJ, 6, .inr (.inl (fun _ => 0)))) :: (q_189, .inl (cJ, 6, .inr (.inl (fun _ => 0)))) :: (q_186, .inl (cI, 6, .inl (fun _ => 0))) :: (q_183, .inl (cZ, 24, .inl (fun _ => 0))) :: (q_180, .inl (cJ, 144, .inr (.inl (fun _ => 0)))) :: (q_177, .inl (cJ, 144, .inr (.inl (fun _ => 0)))) :: (q_174, .inl (cI, 144, .inl (fun _ => 0))) :: r0 : va_W) H := hP
  have hD : va_D A ((h0, .inr (26, (((((((fs_0.set 82 (.ref q_174)).set 83 (.ref q_177)).set 84 (.ref q_180)).set 85 (.ref q_183)).set 86 (.ref q_186)).set 87 (.ref q_189)).set 88 (.ref q_192)).set 89 (.ref q_195))) :: (q_195, .inl (cI, 2001, .inl (fun _ => 0))) :: (q_192, .inl (cJ, 6, .inr (.inl (fun _ => 0)))) :: (q_189, .inl (cJ, 6, .inr (.inl (fun _ => 0)))) :: (q_186, .inl (cI, 6, .inl (fun _ => 0))) :: (q_183, .inl (cZ, 24, .inl (fun _ => 0))) :: (q_180, .inl (cJ, 144, .inr (.inl (fun _ => 0)))) :: (q_177, .inl (cJ, 144, .inr (.inl (fun _ => 0)))) :: (q_174, .inl (cI, 144, .inl (fun _ => 0))) :: r0 : va_W) := hD
  exact kk q_195 q_192 q_189 q_186 q_183 q_180 q_177 q_174 H locs hP hD hS
set_option maxHeartbeats 40000000 in
set_option maxRecDepth 100000 in
/-- the reference: QueryHallModel(), from 632 to 676 -/
theorem c_X21_init_632 {p : Program} {l : Launch} {e : Env} {s : State} {m : MethodId} {args : Array Value} {below : List Frame} {meth : Method} {c : Code} {H : Heap} {locs : List Loc} {Q : State → Prop} {A : Nat → Prop} {ls : Array Slot} (dC : Nat → ClassId) (dI : Nat → Nat → Nat) (cI cJ cB cZ cJJ cII cSt cLk : ClassId) (h0 ed ks vs n : Nat) (bf : Nat → Int32) (fs_0 : List Value) (hlfs_0 : fs_0.length = 95) (r0 : va_W) (hx : p.tables.exec = Jvm.exec) (hb : c.code = cX21_init) (hml : c.maxLocals = 7) (hts : ∀ w ∈ wsX21_init, w.before args s = true) (hown : s.vm.findClass RX21 = some m.cls) (hin : meth.name = "<init>") (hK : va_K (dC, dI) vwCl [(cI, .int), (cJ, .long), (cB, .byte), (cZ, .boolean), (cJJ, .array .long), (cII, .array .int), (cSt, .object RX20), (cLk, .object RX16)] s) (hA : ∀ q : Nat, s.heap.size ≤ q → A q) (hE0 : va_Z "java/util/ArrayList" "DEFAULTCAPACITY_EMPTY_ELEMENTDATA" "[Ljava/lang/Object;" (.ref ed) A s s.heap) (hE1 : va_AOA .long s) (hE2 : va_AOA .int s) (hE3 : va_AO RX20 s) (hE4 : va_AO RX16 s) (hE5 : vk_R RX21 240 "create table index on insert into values update set where delete from begin commit rollback number truth text not null select distinct left join group by having order desc or and is in true false count exists sum min max " ks s) (hE6 : va_Z "java/lang/String" "COMPACT_STRINGS" "Z" (.int 1) A s s.heap) (hE7 : va_OF "java/lang/String" "coder" "B" (.int 0) ks A s s.heap) (hE8 : va_OF "java/lang/String" "value" "[B" (.ref vs) ks A s s.heap) (hE9 : va_O "java/lang/String" ks A s s.heap) (hE10 : va_T .byte vs n (fun j => .int (bf j)) A s s.heap) (hE11 : va_Zq "jdk/internal/util/Preconditions" "SIOOBE_FORMATTER" "Ljava/util/function/BiFunction;" A s s.heap) (hl : lv_has ls 7 [(0, .ref h0)]) (hP : va_P (dC, dI) vwCl ((h0, .inr (26, fs_0)) :: r0 : va_W) H) (hD : va_D A ((h0, .inr (26, fs_0)) :: r0 : va_W)) (hS : va_S A s.heap H locs) (kk : ∀ (q_210 q_207 q_204 q_201 q_198 : Nat) (H : Heap) (locs : List Loc), va_P (dC, dI) vwCl ((h0, .inr (26, ((((fs_0.set 90 (.ref q_198)).set 91 (.ref q_201)).set 92 (.ref q_204)).set 93 (.ref q_207)).set 94 (.ref q_210))) :: (q_210, .inl (cI, 400, .inl (fun _ => 0))) :: (q_207, .inl (cJ, 15, .inr (.inl (fun _ => 0)))) :: (q_204, .inl (cJ, 12006, .inr (.inl (fun _ => 0)))) :: (q_201, .inl (cJ, 12006, .inr (.inl (fun _ => 0)))) :: (q_198, .inl (cI, 12006, .inl (fun _ => 0))) :: r0 : va_W) H → va_D A ((h0, .inr (26, ((((fs_0.set 90 (.ref q_198)).set 91 (.ref q_201)).set 92 (.ref q_204)).set 93 (.ref q_207)).set 94 (.ref q_210))) :: (q_210, .inl (cI, 400, .inl (fun _ => 0))) :: (q_207, .inl (cJ, 15, .inr (.inl (fun _ => 0)))) :: (q_204, .inl (cJ, 12006, .inr (.inl (fun _ => 0)))) :: (q_201, .inl (cJ, 12006, .inr (.inl (fun _ => 0)))) :: (q_198, .inl (cI, 12006, .inl (fun _ => 0))) :: r0 : va_W) → va_S A s.heap H locs → W p l e (headSpec wsX21_init { frames := 8, cells := 113, slots := 306930, locals := 300 }).room s m args below meth c H locs 113 306930 Q (F0 m 676 ls [])) : W p l e (headSpec wsX21_init { frames := 8, cells := 113, slots := 306930, locals := 300 }).room s m args below meth c H locs 108 270497 Q (F0 m 632 ls []) := by
  refine lv_aload_n hx hb dX21_init_632 rfl (lv_at hl 0 rfl) ?_
  refine lv_sipush (v := 12006) hx hb dX21_init_633 (by decide) ?_
  refine qh_newa (atype := .int) (ty := .int) (n := 12006) (N' := 12006) (a0 := (12006, .inl (fun _ => 0))) hx hb (hts (.arrayClass .int) (by decide +kernel)) rfl hK hP hD hS hA 0 rfl (qh_ai .int 12006 rfl) (by decide) (by decide) (by decide) (Nat.le_of_ble_eq_true rfl) (Nat.le_of_ble_eq_true rfl) dX21_init_636 (fun q_198 H hP hD hS => ?_)
  have hP := qh_frontP (o := (h0, .inr (26, fs_0))) (r := r0) (X := [(q_198, .inl (cI, 12006, .inl (fun _ => 0)))]) hP
  have hD := qh_frontD (o := (h0, .inr (26, fs_0))) (r := r0) (X := [(q_198, .inl (cI, 12006, .inl (fun _ => 0)))]) hD
  have hP : va_P (dC, dI) vwCl ((h0, .inr (26, fs_0)) :: (q_198, .inl (cI, 12006, .inl (fun _ => 0))) :: r0 : va_W) H := hP
  have hD : va_D A ((h0, .inr (26, fs_0)) :: (q_198, .inl (cI, 12006, .inl (fun _ => 0))) :: r0 : va_W) := hD
  refine va_putF (D := (dC, dI)) (fs := fs_0) (ci := 26) (v := .ref q_198) (ty := .array .int) (C := RX21) (T := TX21) (N := 95) hx hb hts qh_in21 tyX21 tyX21_ok nmX21 hown hK hP hD hS 0 rfl rfl 90 (by decide) (hts (.fieldLink RX21 225 "QueryHallModel" "listKinds" "[I") (by decide +kernel)) (fun _ h9 => h9) rfl hin rfl (by decide +kernel) rfl rfl (by rw [hlfs_0]; decide) dX21_init_638 (fun H locs hP hD hS => ?_)
  have hP : va_P (dC, dI) vwCl ((h0, .inr (26, fs_0.set 90 (.ref q_198))) :: (q_198, .inl (cI, 12006, .inl (fun _ => 0))) :: r0 : va_W) H := hP
  have hD : va_D A ((h0, .inr (26, fs_0.set 90 (.ref q_198))) :: (q_198, .inl (cI, 12006, .inl (fun _ => 0))) :: r0 : va_W) := hD
  generalize hfs_199 : fs_0.set 90 (.ref q_198) = fs_199 at hP hD
  have hlfs_199 : fs_199.length = 95 := by rw [← hfs_199, List.length_set]; exact hlfs_0
  generalize hrt_200 : ((q_198, .inl (cI, 12006, .inl (fun _ => 0))) :: r0 : va_W) = rt_200 at hP hD
  refine lv_aload_n hx hb dX21_init_641 rfl (lv_at hl 0 rfl) ?_
  refine lv_sipush (v := 12006) hx hb dX21_init_642 (by decide) ?_
  refine qh_newa (atype := .long) (ty := .long) (n := 12006) (N' := 12006) (a0 := (12006, .inr (.inl (fun _ => 0)))) hx hb (hts (.arrayClass .long) (by decide +kernel)) rfl hK hP hD hS hA 1 rfl (qh_al 12006) (by decide) (by decide) (by decide) (Nat.le_of_ble_eq_true rfl) (Nat.le_of_ble_eq_true rfl) dX21_init_645 (fun q_201 H hP hD hS => ?_)
  have hP := qh_frontP (o := (h0, .inr (26, fs_199))) (r := rt_200) (X := [(q_201, .inl (cJ, 12006, .inr (.inl (fun _ => 0))))]) hP
  have hD := qh_frontD (o := (h0, .inr (26, fs_199))) (r := rt_200) (X := [(q_201, .inl (cJ, 12006, .inr (.inl (fun _ => 0))))]) hD
  have hP : va_P (dC, dI) vwCl ((h0, .inr (26, fs_199)) :: (q_201, .inl (cJ, 12006, .inr (.inl (fun _ => 0)))) :: rt_200 : va_W) H := hP
  have hD : va_D A ((h0, .inr (26, fs_199)) :: (q_201, .inl (cJ, 12006, .inr (.inl (fun _ => 0)))) :: rt_200 : va_W) := hD
  refine va_putF (D := (dC, dI)) (fs := fs_199) (ci := 26) (v := .ref q_201) (ty := .array .long) (C := RX21) (T := TX21) (N := 95) hx hb hts qh_in21 tyX21 tyX21_ok nmX21 hown hK hP hD hS 0 rfl rfl 91 (by decide) (hts (.fieldLink RX21 228 "QueryHallModel" "listHigh" "[J") (by decide +kernel)) (fun _ h9 => h9) rfl hin rfl (by decide +kernel) rfl rfl (by rw [hlfs_199]; decide) dX21_init_647 (fun H locs hP hD hS => ?_)
  have hP : va_P (dC, dI) vwCl ((h0, .inr (26, fs_199.set 91 (.ref q_201))) :: (q_201, .inl (cJ, 12006, .inr (.inl (fun _ => 0)))) :: rt_200 : va_W) H := hP
  have hD : va_D A ((h0, .inr (26, fs_199.set 91 (.ref q_201))) :: (q_201, .inl (cJ, 12006, .inr (.inl (fun _ => 0)))) :: rt_200 : va_W) := hD
  generalize hfs_202 : fs_199.set 91 (.ref q_201) = fs_202 at hP hD
  have hlfs_202 : fs_202.length = 95 := by rw [← hfs_202, List.length_set]; exact hlfs_199
  generalize hrt_203 : ((q_201, .inl (cJ, 12006, .inr (.inl (fun _ => 0)))) :: rt_200 : va_W) = rt_203 at hP hD
  refine lv_aload_n hx hb dX21_init_650 rfl (lv_at hl 0 rfl) ?_
  refine lv_sipush (v := 12006) hx hb dX21_init_651 (by decide) ?_
  refine qh_newa (atype := .long) (ty := .long) (n := 12006) (N' := 12006) (a0 := (12006, .inr (.inl (fun _ => 0)))) hx hb (hts (.arrayClass .long) (by decide +kernel)) rfl hK hP hD hS hA 1 rfl (qh_al 12006) (by decide) (by decide) (by decide) (Nat.le_of_ble_eq_true rfl) (Nat.le_of_ble_eq_true rfl) dX21_init_654 (fun q_204 H hP hD hS => ?_)
  have hP := qh_frontP (o := (h0, .inr (26, fs_202))) (r := rt_203) (X := [(q_204, .inl (cJ, 12006, .inr (.inl (fun _ => 0))))]) hP
  have hD := qh_frontD (o := (h0, .inr (26, fs_202))) (r := rt_203) (X := [(q_204, .inl (cJ, 12006, .inr (.inl (fun _ => 0))))]) hD
  have hP : va_P (dC, dI) vwCl ((h0, .inr (26, fs_202)) :: (q_204, .inl (cJ, 12006, .inr (.inl (fun _ => 0)))) :: rt_203 : va_W) H := hP
  have hD : va_D A ((h0, .inr (26, fs_202)) :: (q_204, .inl (cJ, 12006, .inr (.inl (fun _ => 0)))) :: rt_203 : va_W) := hD
  refine va_putF (D := (dC, dI)) (fs := fs_202) (ci := 26) (v := .ref q_204) (ty := .array .long) (C := RX21) (T := TX21) (N := 95) hx hb hts qh_in21 tyX21 tyX21_ok nmX21 hown hK hP hD hS 0 rfl rfl 92 (by decide) (hts (.fieldLink RX21 231 "QueryHallModel" "listLow" "[J") (by decide +kernel)) (fun _ h9 => h9) rfl hin rfl (by decide +kernel) rfl rfl (by rw [hlfs_202]; decide) dX21_init_656 (fun H locs hP hD hS => ?_)
  have hP : va_P (dC, dI) vwCl ((h0, .inr (26, fs_202.set 92 (.ref q_204))) :: (q_204, .inl (cJ, 12006, .inr (.inl (fun _ => 0)))) :: rt_203 : va_W) H := hP
  have hD : va_D A ((h0, .inr (26, fs_202.set 92 (.ref q_204))) :: (q_204, .inl (cJ, 12006, .inr (.inl (fun _ => 0)))) :: rt_203 : va_W) := hD
  generalize hfs_205 : fs_202.set 92 (.ref q_204) = fs_205 at hP hD
  have hlfs_205 : fs_205.length = 95 := by rw [← hfs_205, List.length_set]; exact hlfs_202
  generalize hrt_206 : ((q_204, .inl (cJ, 12006, .inr (.inl (fun _ => 0)))) :: rt_203 : va_W) = rt_206 at hP hD
  refine lv_aload_n hx hb dX21_init_659 rfl (lv_at hl 0 rfl) ?_
  refine lv_bipush (v := 15) hx hb dX21_init_660 (by decide) ?_
  refine qh_newa (atype := .long) (ty := .long) (n := 15) (N' := 15) (a0 := (15, .inr (.inl (fun _ => 0)))) hx hb (hts (.arrayClass .long) (by decide +kernel)) rfl hK hP hD hS hA 1 rfl (qh_al 15) (by decide) (by decide) (by decide) (Nat.le_of_ble_eq_true rfl) (Nat.le_of_ble_eq_true rfl) dX21_init_662 (fun q_207 H hP hD hS => ?_)
  have hP := qh_frontP (o := (h0, .inr (26, fs_205))) (r := rt_206) (X := [(q_207, .inl (cJ, 15, .inr (.inl (fun _ => 0))))]) hP
  have hD := qh_frontD (o := (h0, .inr (26, fs_205))) (r := rt_206) (X := [(q_207, .inl (cJ, 15, .inr (.inl (fun _ => 0))))]) hD
  have hP : va_P (dC, dI) vwCl ((h0, .inr (26, fs_205)) :: (q_207, .inl (cJ, 15, .inr (.inl (fun _ => 0)))) :: rt_206 : va_W) H := hP
  have hD : va_D A ((h0, .inr (26, fs_205)) :: (q_207, .inl (cJ, 15, .inr (.inl (fun _ => 0)))) :: rt_206 : va_W) := hD
  refine va_putF (D := (dC, dI)) (fs := fs_205) (ci := 26) (v := .ref q_207) (ty := .array .long) (C := RX21) (T := TX21) (N := 95) hx hb hts qh_in21 tyX21 tyX21_ok nmX21 hown hK hP hD hS 0 rfl rfl 93 (by decide) (hts (.fieldLink RX21 234 "QueryHallModel" "planAtHand" "[J") (by decide +kernel)) (fun _ h9 => h9) rfl hin rfl (by decide +kernel) rfl rfl (by rw [hlfs_205]; decide) dX21_init_664 (fun H locs hP hD hS => ?_)
  have hP : va_P (dC, dI) vwCl ((h0, .inr (26, fs_205.set 93 (.ref q_207))) :: (q_207, .inl (cJ, 15, .inr (.inl (fun _ => 0)))) :: rt_206 : va_W) H := hP
  have hD : va_D A ((h0, .inr (26, fs_205.set 93 (.ref q_207))) :: (q_207, .inl (cJ, 15, .inr (.inl (fun _ => 0)))) :: rt_206 : va_W) := hD
  generalize hfs_208 : fs_205.set 93 (.ref q_207) = fs_208 at hP hD
  have hlfs_208 : fs_208.length = 95 := by rw [← hfs_208, List.length_set]; exact hlfs_205
  generalize hrt_209 : ((q_207, .inl (cJ, 15, .inr (.inl (fun _ => 0)))) :: rt_206 : va_W) = rt_209 at hP hD
  refine lv_aload_n hx hb dX21_init_667 rfl (lv_at hl 0 rfl) ?_
  refine lv_sipush (v := 400) hx hb dX21_init_668 (by decide) ?_
  refine qh_newa (atype := .int) (ty := .int) (n := 400) (N' := 400) (a0 := (400, .inl (fun _ => 0))) hx hb (hts (.arrayClass .int) (by decide +kernel)) rfl hK hP hD hS hA 0 rfl (qh_ai .int 400 rfl) (by decide) (by decide) (by decide) (Nat.le_of_ble_eq_true rfl) (Nat.le_of_ble_eq_true rfl) dX21_init_671 (fun q_210 H hP hD hS => ?_)
  have hP := qh_frontP (o := (h0, .inr (26, fs_208))) (r := rt_209) (X := [(q_210, .inl (cI, 400, .inl (fun _ => 0)))]) hP
  have hD := qh_frontD (o := (h0, .inr (26, fs_208))) (r := rt_209) (X := [(q_210, .inl (cI, 400, .inl (fun _ => 0)))]) hD
  have hP : va_P (dC, dI) vwCl ((h0, .inr (26, fs_208)) :: (q_210, .inl (cI, 400, .inl (fun _ => 0))) :: rt_209 : va_W) H := hP
  have hD : va_D A ((h0, .inr (26, fs_208)) :: (q_210, .inl (cI, 400, .inl (fun _ => 0))) :: rt_209 : va_W) := hD
  refine va_putF (D := (dC, dI)) (fs := fs_208) (ci := 26) (v := .ref q_210) (ty := .array .int) (C := RX21) (T := TX21) (N := 95) hx hb hts qh_in21 tyX21 tyX21_ok nmX21 hown hK hP hD hS 0 rfl rfl 94 (by decide) (hts (.fieldLink RX21 237 "QueryHallModel" "ofItem" "[I") (by decide +kernel)) (fun _ h9 => h9) rfl hin rfl (by decide +kernel) rfl rfl (by rw [hlfs_208]; decide) dX21_init_673 (fun H locs hP hD hS => ?_)
  have hP : va_P (dC, dI) vwCl ((h0, .inr (26, fs_208.set 94 (.ref q_210))) :: (q_210, .inl (cI, 400, .inl (fun _ => 0))) :: rt_209 : va_W) H := hP
  have hD : va_D A ((h0, .inr (26, fs_208.set 94 (.ref q_210))) :: (q_210, .inl (cI, 400, .inl (fun _ => 0))) :: rt_209 : va_W) := hD
  generalize hfs_211 : fs_208.set 94 (.ref q_210) = fs_211 at hP hD
  have hlfs_211 : fs_211.length = 95 := by rw [← hfs_211, List.length_set]; exact hlfs_208
  generalize hrt_212 : ((q_210, .inl (cI, 400, .inl (fun _ => 0))) :: rt_209 : va_W) = rt_212 at hP hD
  subst hrt_212
  subst hrt_209
  subst hrt_206
  subst hrt_203
  subst hrt_200
  clear hlfs_211
  clear hlfs_208
  clear hlfs_205
  clear hlfs_202
  clear hlfs_199
  subst hfs_211
  subst hfs_208
  subst hfs_205
  subst hfs_202
  subst hfs_199
  have hP : va_P (dC, dI) vwCl ((h0, .inr (26, ((((fs_0.set 90 (.ref q_198)).set 91 (.ref q_201)).set 92 (.ref q_204)).set 93 (.ref q_207)).set 94 (.ref q_210))) :: (q_210, .inl (cI, 400, .inl (fun _ => 0))) :: (q_207, .inl (cJ, 15, .inr (.inl (fun _ => 0)))) :: (q_204, .inl (cJ, 12006, .inr (.inl (fun _ => 0)))) :: (q_201, .inl (cJ, 12006, .inr (.inl (fun _ => 0)))) :: (q_198, .inl (cI, 12006, .inl (fun _ => 0))) :: r0 : va_W) H := hP
  have hD : va_D A ((h0, .inr (26, ((((fs_0.set 90 (.ref q_198)).set 91 (.ref q_201)).set 92 (.ref q_204)).set 93 (.ref q_207)).set 94 (.ref q_210))) :: (q_210, .inl (cI, 400, .inl (fun _ => 0))) :: (q_207, .inl (cJ, 15, .inr (.inl (fun _ => 0)))) :: (q_204, .inl (cJ, 12006, .inr (.inl (fun _ => 0)))) :: (q_201, .inl (cJ, 12006, .inr (.inl (fun _ => 0)))) :: (q_198, .inl (cI, 12006, .inl (fun _ => 0))) :: r0 : va_W) := hD
  exact kk q_210 q_207 q_204 q_201 q_198 H locs hP hD hS
