abbrev cX0_init : ByteArray := prog_2_method_1_code
def yX0_init : MethodName := ⟨RX0, "<init>", "([LQueryHall$Table;)V"⟩
abbrev cX3_init : ByteArray := prog_5_method_1_code
def yX3_init : MethodName := ⟨RX3, "<init>", "()V"⟩
abbrev cX7_init : ByteArray := prog_9_method_1_code
def yX7_init : MethodName := ⟨RX7, "<init>", "()V"⟩
abbrev cX8_init : ByteArray := prog_10_method_1_code
def yX8_init : MethodName := ⟨RX8, "<init>", "()V"⟩
abbrev cX9_init : ByteArray := prog_11_method_1_code
def yX9_init : MethodName := ⟨RX9, "<init>", "()V"⟩
def wsX0_init : List Cond := .code yX0_init cX0_init 2 none :: ([.methodLink RX0 3 objectInit, .instanceMethod objectInit, .code objectInit ⟨#[0xb1]⟩ 1 none, .arrayClass .int, .fieldLink RX0 11 "QueryHall$Checker" "types" "[I", .fieldLink RX0 17 "QueryHall$Checker" "marksBefore" "[I", .arrayClass .boolean, .fieldLink RX0 20 "QueryHall$Checker" "inGroupedPart" "[Z", .fieldLink RX0 24 "QueryHall$Checker" "aggsAround" "[I", .fieldLink RX0 27 "QueryHall$Checker" "seenItems" "[I", .fieldLink RX0 30 "QueryHall$Checker" "tables" "[LQueryHall$Table;"] ++ wsX00)
def wsX3_init : List Cond := .code yX3_init cX3_init 1 none :: ([.methodLink RX3 1 objectInit, .instanceMethod objectInit, .code objectInit ⟨#[0xb1]⟩ 1 none])
def wsX9_init : List Cond := .code yX9_init cX9_init 2 none :: ([.methodLink RX9 3 objectInit, .instanceMethod objectInit, .code objectInit ⟨#[0xb1]⟩ 1 none, .arrayClass .int, .fieldLink RX9 9 "QueryHall$Select" "list" "[I", .classLink RX9 15 RX3, .fieldLink RX9 17 "QueryHall$Select" "items" "[LQueryHall$Item;", .fieldLink RX9 21 "QueryHall$Select" "group" "[I", .fieldLink RX9 24 "QueryHall$Select" "order" "[I", .arrayClass .boolean, .fieldLink RX9 27 "QueryHall$Select" "desc" "[Z", .instantiable RX3 8, .initialized RX3, .instanceMethod yX3_init, .code yX3_init cX3_init 1 none, .methodLink RX3 1 objectInit] ++ wsX90 ++ wsX30)
def wsX7_init : List Cond := .code yX7_init cX7_init 1 none :: ([.methodLink RX7 3 objectInit, .instanceMethod objectInit, .code objectInit ⟨#[0xb1]⟩ 1 none, .arrayClass .long, .fieldLink RX7 9 "QueryHall$Place" "key" "[J", .arrayClass .int, .fieldLink RX7 15 "QueryHall$Place" "have" "[I", .fieldLink RX7 19 "QueryHall$Place" "want" "[I", .fieldLink RX7 22 "QueryHall$Place" "queue" "[I"] ++ wsX70)
def wsX8_init : List Cond := .code yX8_init cX8_init 1 none :: ([.methodLink RX8 3 objectInit, .instanceMethod objectInit, .code objectInit ⟨#[0xb1]⟩ 1 none, .arrayClass .int, .fieldLink RX8 11 "QueryHall$Planner" "parts" "[I", .fieldLink RX8 17 "QueryHall$Planner" "partItems" "[I", .fieldLink RX8 20 "QueryHall$Planner" "partNeeds" "[I", .arrayClass .boolean, .fieldLink RX8 23 "QueryHall$Planner" "used" "[Z", .fieldLink RX8 27 "QueryHall$Planner" "order" "[I", .arrayClass .long, .fieldLink RX8 30 "QueryHall$Planner" "tried" "[J"] ++ wsX80)
theorem dX0_init_0 : decode cX0_init 0 = .ok (.aload_n 0, 1) := by decide +kernel
theorem dX0_init_1 : decode cX0_init 1 = .ok (.invokespecial 3, 3) := by decide +kernel
theorem dX0_init_4 : decode cX0_init 4 = .ok (.aload_n 0, 1) := by decide +kernel
theorem dX0_init_5 : decode cX0_init 5 = .ok (.sipush 512, 3) := by decide +kernel
theorem dX0_init_8 : decode cX0_init 8 = .ok (.newarray .int, 2) := by decide +kernel
theorem dX0_init_10 : decode cX0_init 10 = .ok (.putfield 11, 3) := by decide +kernel
theorem dX0_init_13 : decode cX0_init 13 = .ok (.aload_n 0, 1) := by decide +kernel
theorem dX0_init_14 : decode cX0_init 14 = .ok (.sipush 512, 3) := by decide +kernel
theorem dX0_init_17 : decode cX0_init 17 = .ok (.newarray .int, 2) := by decide +kernel
theorem dX0_init_19 : decode cX0_init 19 = .ok (.putfield 17, 3) := by decide +kernel
theorem dX0_init_22 : decode cX0_init 22 = .ok (.aload_n 0, 1) := by decide +kernel
theorem dX0_init_23 : decode cX0_init 23 = .ok (.iconst 3, 1) := by decide +kernel
theorem dX0_init_24 : decode cX0_init 24 = .ok (.newarray .boolean, 2) := by decide +kernel
theorem dX0_init_26 : decode cX0_init 26 = .ok (.putfield 20, 3) := by decide +kernel
theorem dX0_init_29 : decode cX0_init 29 = .ok (.aload_n 0, 1) := by decide +kernel
theorem dX0_init_30 : decode cX0_init 30 = .ok (.iconst 3, 1) := by decide +kernel
theorem dX0_init_31 : decode cX0_init 31 = .ok (.newarray .int, 2) := by decide +kernel
theorem dX0_init_33 : decode cX0_init 33 = .ok (.putfield 24, 3) := by decide +kernel
theorem dX0_init_36 : decode cX0_init 36 = .ok (.aload_n 0, 1) := by decide +kernel
theorem dX0_init_37 : decode cX0_init 37 = .ok (.iconst 3, 1) := by decide +kernel
theorem dX0_init_38 : decode cX0_init 38 = .ok (.newarray .int, 2) := by decide +kernel
theorem dX0_init_40 : decode cX0_init 40 = .ok (.putfield 27, 3) := by decide +kernel
theorem dX0_init_43 : decode cX0_init 43 = .ok (.aload_n 0, 1) := by decide +kernel
theorem dX0_init_44 : decode cX0_init 44 = .ok (.aload_n 1, 1) := by decide +kernel
theorem dX0_init_45 : decode cX0_init 45 = .ok (.putfield 30, 3) := by decide +kernel
theorem dX0_init_48 : decode cX0_init 48 = .ok (.return_, 1) := by decide +kernel
theorem dX3_init_0 : decode cX3_init 0 = .ok (.aload_n 0, 1) := by decide +kernel
theorem dX3_init_1 : decode cX3_init 1 = .ok (.invokespecial 1, 3) := by decide +kernel
theorem dX3_init_4 : decode cX3_init 4 = .ok (.return_, 1) := by decide +kernel
theorem dX7_init_0 : decode cX7_init 0 = .ok (.aload_n 0, 1) := by decide +kernel
theorem dX7_init_1 : decode cX7_init 1 = .ok (.invokespecial 3, 3) := by decide +kernel
theorem dX7_init_4 : decode cX7_init 4 = .ok (.aload_n 0, 1) := by decide +kernel
theorem dX7_init_5 : decode cX7_init 5 = .ok (.iconst 3, 1) := by decide +kernel
theorem dX7_init_6 : decode cX7_init 6 = .ok (.newarray .long, 2) := by decide +kernel
theorem dX7_init_8 : decode cX7_init 8 = .ok (.putfield 9, 3) := by decide +kernel
theorem dX7_init_11 : decode cX7_init 11 = .ok (.aload_n 0, 1) := by decide +kernel
theorem dX7_init_12 : decode cX7_init 12 = .ok (.iconst 4, 1) := by decide +kernel
theorem dX7_init_13 : decode cX7_init 13 = .ok (.newarray .int, 2) := by decide +kernel
theorem dX7_init_15 : decode cX7_init 15 = .ok (.putfield 15, 3) := by decide +kernel
theorem dX7_init_18 : decode cX7_init 18 = .ok (.aload_n 0, 1) := by decide +kernel
theorem dX7_init_19 : decode cX7_init 19 = .ok (.iconst 4, 1) := by decide +kernel
theorem dX7_init_20 : decode cX7_init 20 = .ok (.newarray .int, 2) := by decide +kernel
theorem dX7_init_22 : decode cX7_init 22 = .ok (.putfield 19, 3) := by decide +kernel
theorem dX7_init_25 : decode cX7_init 25 = .ok (.aload_n 0, 1) := by decide +kernel
theorem dX7_init_26 : decode cX7_init 26 = .ok (.iconst 4, 1) := by decide +kernel
theorem dX7_init_27 : decode cX7_init 27 = .ok (.newarray .int, 2) := by decide +kernel
theorem dX7_init_29 : decode cX7_init 29 = .ok (.putfield 22, 3) := by decide +kernel
theorem dX7_init_32 : decode cX7_init 32 = .ok (.return_, 1) := by decide +kernel
theorem dX8_init_0 : decode cX8_init 0 = .ok (.aload_n 0, 1) := by decide +kernel
theorem dX8_init_1 : decode cX8_init 1 = .ok (.invokespecial 3, 3) := by decide +kernel
theorem dX8_init_4 : decode cX8_init 4 = .ok (.aload_n 0, 1) := by decide +kernel
theorem dX8_init_5 : decode cX8_init 5 = .ok (.sipush 512, 3) := by decide +kernel
theorem dX8_init_8 : decode cX8_init 8 = .ok (.newarray .int, 2) := by decide +kernel
theorem dX8_init_10 : decode cX8_init 10 = .ok (.putfield 11, 3) := by decide +kernel
theorem dX8_init_13 : decode cX8_init 13 = .ok (.aload_n 0, 1) := by decide +kernel
theorem dX8_init_14 : decode cX8_init 14 = .ok (.sipush 512, 3) := by decide +kernel
theorem dX8_init_17 : decode cX8_init 17 = .ok (.newarray .int, 2) := by decide +kernel
theorem dX8_init_19 : decode cX8_init 19 = .ok (.putfield 17, 3) := by decide +kernel
theorem dX8_init_22 : decode cX8_init 22 = .ok (.aload_n 0, 1) := by decide +kernel
theorem dX8_init_23 : decode cX8_init 23 = .ok (.sipush 512, 3) := by decide +kernel
theorem dX8_init_26 : decode cX8_init 26 = .ok (.newarray .int, 2) := by decide +kernel
theorem dX8_init_28 : decode cX8_init 28 = .ok (.putfield 20, 3) := by decide +kernel
theorem dX8_init_31 : decode cX8_init 31 = .ok (.aload_n 0, 1) := by decide +kernel
theorem dX8_init_32 : decode cX8_init 32 = .ok (.sipush 512, 3) := by decide +kernel
theorem dX8_init_35 : decode cX8_init 35 = .ok (.newarray .boolean, 2) := by decide +kernel
theorem dX8_init_37 : decode cX8_init 37 = .ok (.putfield 23, 3) := by decide +kernel
theorem dX8_init_40 : decode cX8_init 40 = .ok (.aload_n 0, 1) := by decide +kernel
theorem dX8_init_41 : decode cX8_init 41 = .ok (.iconst 3, 1) := by decide +kernel
theorem dX8_init_42 : decode cX8_init 42 = .ok (.newarray .int, 2) := by decide +kernel
theorem dX8_init_44 : decode cX8_init 44 = .ok (.putfield 27, 3) := by decide +kernel
theorem dX8_init_47 : decode cX8_init 47 = .ok (.aload_n 0, 1) := by decide +kernel
theorem dX8_init_48 : decode cX8_init 48 = .ok (.bipush 15, 2) := by decide +kernel
theorem dX8_init_50 : decode cX8_init 50 = .ok (.newarray .long, 2) := by decide +kernel
theorem dX8_init_52 : decode cX8_init 52 = .ok (.putfield 30, 3) := by decide +kernel
theorem dX8_init_55 : decode cX8_init 55 = .ok (.return_, 1) := by decide +kernel
set_option maxRecDepth 20000 in
theorem ggX9_init_X3_init : GoodIn wsX9_init wsX3_init := goodIn_r _ [15, 16, 2, 3] (by decide +kernel) (by decide +kernel)
theorem dX9_init_0 : decode cX9_init 0 = .ok (.aload_n 0, 1) := by decide +kernel
theorem dX9_init_1 : decode cX9_init 1 = .ok (.invokespecial 3, 3) := by decide +kernel
theorem dX9_init_4 : decode cX9_init 4 = .ok (.aload_n 0, 1) := by decide +kernel
theorem dX9_init_5 : decode cX9_init 5 = .ok (.bipush 6, 2) := by decide +kernel
theorem dX9_init_7 : decode cX9_init 7 = .ok (.newarray .int, 2) := by decide +kernel
theorem dX9_init_9 : decode cX9_init 9 = .ok (.putfield 9, 3) := by decide +kernel
theorem dX9_init_12 : decode cX9_init 12 = .ok (.aload_n 0, 1) := by decide +kernel
theorem dX9_init_13 : decode cX9_init 13 = .ok (.iconst 3, 1) := by decide +kernel
theorem dX9_init_14 : decode cX9_init 14 = .ok (.anewarray 15, 3) := by decide +kernel
theorem dX9_init_17 : decode cX9_init 17 = .ok (.putfield 17, 3) := by decide +kernel
theorem dX9_init_20 : decode cX9_init 20 = .ok (.aload_n 0, 1) := by decide +kernel
theorem dX9_init_21 : decode cX9_init 21 = .ok (.iconst 3, 1) := by decide +kernel
theorem dX9_init_22 : decode cX9_init 22 = .ok (.newarray .int, 2) := by decide +kernel
theorem dX9_init_24 : decode cX9_init 24 = .ok (.putfield 21, 3) := by decide +kernel
theorem dX9_init_27 : decode cX9_init 27 = .ok (.aload_n 0, 1) := by decide +kernel
theorem dX9_init_28 : decode cX9_init 28 = .ok (.iconst 3, 1) := by decide +kernel
theorem dX9_init_29 : decode cX9_init 29 = .ok (.newarray .int, 2) := by decide +kernel
theorem dX9_init_31 : decode cX9_init 31 = .ok (.putfield 24, 3) := by decide +kernel
theorem dX9_init_34 : decode cX9_init 34 = .ok (.aload_n 0, 1) := by decide +kernel
theorem dX9_init_35 : decode cX9_init 35 = .ok (.iconst 3, 1) := by decide +kernel
theorem dX9_init_36 : decode cX9_init 36 = .ok (.newarray .boolean, 2) := by decide +kernel
theorem dX9_init_38 : decode cX9_init 38 = .ok (.putfield 27, 3) := by decide +kernel
theorem dX9_init_41 : decode cX9_init 41 = .ok (.iconst 0, 1) := by decide +kernel
theorem dX9_init_42 : decode cX9_init 42 = .ok (.istore_n 1, 1) := by decide +kernel
theorem dX9_init_43 : decode cX9_init 43 = .ok (.iload_n 1, 1) := by decide +kernel
theorem dX9_init_44 : decode cX9_init 44 = .ok (.iconst 3, 1) := by decide +kernel
theorem dX9_init_45 : decode cX9_init 45 = .ok (.if_icmp .ge 22, 3) := by decide +kernel
theorem dX9_init_48 : decode cX9_init 48 = .ok (.aload_n 0, 1) := by decide +kernel
theorem dX9_init_49 : decode cX9_init 49 = .ok (.getfield 17, 3) := by decide +kernel
theorem dX9_init_52 : decode cX9_init 52 = .ok (.iload_n 1, 1) := by decide +kernel
theorem dX9_init_53 : decode cX9_init 53 = .ok (.new 15, 3) := by decide +kernel
theorem dX9_init_56 : decode cX9_init 56 = .ok (.dup, 1) := by decide +kernel
theorem dX9_init_57 : decode cX9_init 57 = .ok (.invokespecial 31, 3) := by decide +kernel
theorem dX9_init_60 : decode cX9_init 60 = .ok (.aastore, 1) := by decide +kernel
theorem dX9_init_61 : decode cX9_init 61 = .ok (.iinc 1 1, 3) := by decide +kernel
theorem dX9_init_64 : decode cX9_init 64 = .ok (.goto (-21), 3) := by decide +kernel
theorem dX9_init_67 : decode cX9_init 67 = .ok (.return_, 1) := by decide +kernel
set_option maxHeartbeats 4000000 in
set_option maxRecDepth 100000 in
/-- Item() -/
theorem c_X3_init (l : Launch) (dC : Nat → ClassId) (dI : Nat → Nat → Nat) (sz : Nat) (h0 : Nat) : Met l yX3_init wsX3_init ({ frames := 1, cells := 0, slots := 0, locals := 12 }) (va_Pc [.ref h0] (fun U => U.heap.size = sz ∧ va_P (dC, dI) vwCl [(h0, .inr (8, [.long 0, .long 0, .int 0, .int 0, .int 0, .int 0, .int 0, .null]))] U.heap ∧ va_K (dC, dI) vwCl [] U ∧ va_D (fun _ => True) [(h0, .inr (8, [.long 0, .long 0, .int 0, .int 0, .int 0, .int 0, .int 0, .null]))])) (va_Qv (fun (_ : Unit) => True) (fun (_ : Unit) (t : State) => va_P (dC, dI) vwCl [(h0, .inr (8, [.long 0, .long 0, .int 0, .int 0, .int 0, .int 0, .int 0, .null]))] t.heap ∧ va_K (dC, dI) vwCl [] t ∧ va_D (va_A [(h0, .inr (8, [.long 0, .long 0, .int 0, .int 0, .int 0, .int 0, .int 0, .null]))] sz) [(h0, .inr (8, [.long 0, .long 0, .int 0, .int 0, .int 0, .int 0, .int 0, .null]))]) (va_A [(h0, .inr (8, [.long 0, .long 0, .int 0, .int 0, .int 0, .int 0, .int 0, .null]))] sz)) 0 0 (va_A [(h0, .inr (8, [.long 0, .long 0, .int 0, .int 0, .int 0, .int 0, .int 0, .null]))] sz) := by
  refine Met.ofW (cc := cX3_init) (maxL := 1) (ret := none) (by decide) rfl ?_
  intro p e s m args below meth c s₁ B hml hv
  obtain ⟨rfl, hsz, hP, hK, hD0⟩ := hv
  have hx := B.exec
  have hb := B.bytes
  have hr := B.returns
  have hts := atoms_spec (ws := wsX3_init) B.pre
  have hown : s.vm.findClass RX3 = some m.cls := findClass_of_methodNamed B.named
  have hlocks := B.notSynchronized
  have hin : meth.name = "<init>" := (name_of_methodNamed B.named B.method).1
  subst hsz
  have hD := hD0.self (sz := s.heap.size)
  generalize hAe : va_A [(h0, .inr (8, [.long 0, .long 0, .int 0, .int 0, .int 0, .int 0, .int 0, .null]))] s.heap.size = A at hD ⊢
  have hA : ∀ q : Nat, s.heap.size ≤ q → A q := fun q h => by rw [← hAe]; exact Or.inr h
  have hS : va_S A s.heap s.heap [] := va_S.rf
  have hP : va_P (dC, dI) vwCl [(h0, .inr (8, [.long 0, .long 0, .int 0, .int 0, .int 0, .int 0, .int 0, .null]))] s.heap := hP
  have hl := lv_entry ([.ref h0]) (n := 1) (Nat.le_of_ble_eq_true rfl)
  rw [lg_entry_eq]
  generalize (lg_sl ([.ref h0]) ++ List.replicate (1 - (lg_sl ([.ref h0])).length) Slot.unset).toArray = ls at hl ⊢
  have hl : lv_has ls 1 [(0, .ref h0)] := hl
  refine lv_aload_n hx hb dX3_init_0 rfl (lv_at hl 0 rfl) ?_
  refine W.objInit hx hb hown (hts (.methodLink RX3 1 objectInit) (by decide +kernel)) (hts (.instanceMethod objectInit) (by decide +kernel)) (hts (.code objectInit ⟨#[0xb1]⟩ 1 none) (by decide +kernel)) rfl (by rw [hml]; exact hl.1) rfl dX3_init_1 (Nat.le_of_ble_eq_true rfl) (Nat.le_of_ble_eq_true rfl) ?_
  refine W.eq (g2 := F0 m 4 ls []) rfl ?_
  have hP9 := hP.sub (ws' := [(h0, .inr (8, [.long 0, .long 0, .int 0, .int 0, .int 0, .int 0, .int 0, .null]))]) [0] rfl
  have hD9 := hD.sub (ws' := [(h0, .inr (8, [.long 0, .long 0, .int 0, .int 0, .int 0, .int 0, .int 0, .null]))]) [0] (by decide) rfl
  have hK9 := hK.sub (tys' := []) [] rfl
  exact W.vret hx hb hr (fun t ht hW => ⟨⟨(), rfl, trivial, by rw [ht]; exact hP9, va_K.moved hW.alike hK9, hD9⟩, hS.F ht⟩) hS.2.2 dX3_init_4
set_option maxHeartbeats 4000000 in
set_option maxRecDepth 100000 in
/-- Place() -/
theorem c_X7_init (l : Launch) (dC : Nat → ClassId) (dI : Nat → Nat → Nat) (sz : Nat) (cI cJ : ClassId) (h0 : Nat) : Met l yX7_init wsX7_init ({ frames := 1, cells := 4, slots := 15, locals := 12 }) (va_Pc [.ref h0] (fun U => U.heap.size = sz ∧ va_P (dC, dI) vwCl [(h0, .inr (12, [.null, .null, .null, .null, .int 0, .int 0, .int 0]))] U.heap ∧ va_K (dC, dI) vwCl [(cI, .int), (cJ, .long)] U ∧ va_D (fun _ => True) [(h0, .inr (12, [.null, .null, .null, .null, .int 0, .int 0, .int 0]))])) (va_Qv (fun (_ : Unit) => True) (fun (_ : Unit) (t : State) => ∃ (q_1 : Nat) (q_2 : Nat) (q_3 : Nat) (q_4 : Nat), va_P (dC, dI) vwCl [(h0, .inr (12, [.ref q_1, .ref q_2, .ref q_3, .ref q_4, .int 0, .int 0, .int 0])), (q_1, .inl (cJ, 3, .inr (.inl (fun _ => 0)))), (q_2, .inl (cI, 4, .inl (fun _ => 0))), (q_3, .inl (cI, 4, .inl (fun _ => 0))), (q_4, .inl (cI, 4, .inl (fun _ => 0)))] t.heap ∧ va_K (dC, dI) vwCl [(cI, .int), (cJ, .long)] t ∧ va_D (va_A [(h0, .inr (12, [.null, .null, .null, .null, .int 0, .int 0, .int 0]))] sz) [(h0, .inr (12, [.ref q_1, .ref q_2, .ref q_3, .ref q_4, .int 0, .int 0, .int 0])), (q_1, .inl (cJ, 3, .inr (.inl (fun _ => 0)))), (q_2, .inl (cI, 4, .inl (fun _ => 0))), (q_3, .inl (cI, 4, .inl (fun _ => 0))), (q_4, .inl (cI, 4, .inl (fun _ => 0)))]) (va_A [(h0, .inr (12, [.null, .null, .null, .null, .int 0, .int 0, .int 0]))] sz)) 4 15 (va_A [(h0, .inr (12, [.null, .null, .null, .null, .int 0, .int 0, .int 0]))] sz) := by
  refine Met.ofW (cc := cX7_init) (maxL := 1) (ret := none) (by decide) rfl ?_
  intro p e s m args below meth c s₁ B hml hv
  obtain ⟨rfl, hsz, hP, hK, hD0⟩ := hv
  have hx := B.exec
  have hb := B.bytes
  have hr := B.returns
  have hts := atoms_spec (ws := wsX7_init) B.pre
  have hown : s.vm.findClass RX7 = some m.cls := findClass_of_methodNamed B.named
  have hlocks := B.notSynchronized
  have hin : meth.name = "<init>" := (name_of_methodNamed B.named B.method).1
  subst hsz
  have hD := hD0.self (sz := s.heap.size)
  generalize hAe : va_A [(h0, .inr (12, [.null, .null, .null, .null, .int 0, .int 0, .int 0]))] s.heap.size = A at hD ⊢
  have hA : ∀ q : Nat, s.heap.size ≤ q → A q := fun q h => by rw [← hAe]; exact Or.inr h
  have hS : va_S A s.heap s.heap [] := va_S.rf
  have hP : va_P (dC, dI) vwCl [(h0, .inr (12, [.null, .null, .null, .null, .int 0, .int 0, .int 0]))] s.heap := hP
  have hl := lv_entry ([.ref h0]) (n := 1) (Nat.le_of_ble_eq_true rfl)
  rw [lg_entry_eq]
  generalize (lg_sl ([.ref h0]) ++ List.replicate (1 - (lg_sl ([.ref h0])).length) Slot.unset).toArray = ls at hl ⊢
  have hl : lv_has ls 1 [(0, .ref h0)] := hl
  refine lv_aload_n hx hb dX7_init_0 rfl (lv_at hl 0 rfl) ?_
  refine W.objInit hx hb hown (hts (.methodLink RX7 3 objectInit) (by decide +kernel)) (hts (.instanceMethod objectInit) (by decide +kernel)) (hts (.code objectInit ⟨#[0xb1]⟩ 1 none) (by decide +kernel)) rfl (by rw [hml]; exact hl.1) rfl dX7_init_1 (Nat.le_of_ble_eq_true rfl) (Nat.le_of_ble_eq_true rfl) ?_
  refine W.eq (g2 := F0 m 4 ls []) rfl ?_
  refine lv_aload_n hx hb dX7_init_4 rfl (lv_at hl 0 rfl) ?_
  refine lv_iconst (v := 3) hx hb dX7_init_5 (by decide) ?_
  refine qh_newa (atype := .long) (ty := .long) (n := 3) (N' := 3) (a0 := (3, .inr (.inl (fun _ => 0)))) hx hb (hts (.arrayClass .long) (by decide +kernel)) rfl hK hP hD hS hA 1 rfl (qh_al 3) (by decide) (by decide) (by decide) (Nat.le_of_ble_eq_true rfl) (Nat.le_of_ble_eq_true rfl) dX7_init_6 (fun q_1 H hP hD hS => ?_)
  have hP : va_P (dC, dI) vwCl [(h0, .inr (12, [.null, .null, .null, .null, .int 0, .int 0, .int 0])), (q_1, .inl (cJ, 3, .inr (.inl (fun _ => 0))))] H := hP
  have hD : va_D A [(h0, .inr (12, [.null, .null, .null, .null, .int 0, .int 0, .int 0])), (q_1, .inl (cJ, 3, .inr (.inl (fun _ => 0))))] := hD
  refine va_putF (D := (dC, dI)) (ci := 12) (v := .ref q_1) (ty := .array .long) (C := RX7) (T := TX7) (N := 7) hx hb hts (by decide +kernel) tyX7 tyX7_ok nmX7 hown hK hP hD hS 0 rfl rfl 0 (by decide) (hts (.fieldLink RX7 9 "QueryHall$Place" "key" "[J") (by decide +kernel)) (fun _ h9 => h9) rfl hin rfl (by decide +kernel) rfl rfl (Nat.le_of_ble_eq_true rfl) dX7_init_8 (fun H locs hP hD hS => ?_)
  have hP : va_P (dC, dI) vwCl [(h0, .inr (12, [.ref q_1, .null, .null, .null, .int 0, .int 0, .int 0])), (q_1, .inl (cJ, 3, .inr (.inl (fun _ => 0))))] H := hP
  have hD : va_D A [(h0, .inr (12, [.ref q_1, .null, .null, .null, .int 0, .int 0, .int 0])), (q_1, .inl (cJ, 3, .inr (.inl (fun _ => 0))))] := hD
  refine lv_aload_n hx hb dX7_init_11 rfl (lv_at hl 0 rfl) ?_
  refine lv_iconst (v := 4) hx hb dX7_init_12 (by decide) ?_
  refine qh_newa (atype := .int) (ty := .int) (n := 4) (N' := 4) (a0 := (4, .inl (fun _ => 0))) hx hb (hts (.arrayClass .int) (by decide +kernel)) rfl hK hP hD hS hA 0 rfl (qh_ai .int 4 rfl) (by decide) (by decide) (by decide) (Nat.le_of_ble_eq_true rfl) (Nat.le_of_ble_eq_true rfl) dX7_init_13 (fun q_2 H hP hD hS => ?_)
  have hP : va_P (dC, dI) vwCl [(h0, .inr (12, [.ref q_1, .null, .null, .null, .int 0, .int 0, .int 0])), (q_1, .inl (cJ, 3, .inr (.inl (fun _ => 0)))), (q_2, .inl (cI, 4, .inl (fun _ => 0)))] H := hP
  have hD : va_D A [(h0, .inr (12, [.ref q_1, .null, .null, .null, .int 0, .int 0, .int 0])), (q_1, .inl (cJ, 3, .inr (.inl (fun _ => 0)))), (q_2, .inl (cI, 4, .inl (fun _ => 0)))] := hD
  refine va_putF (D := (dC, dI)) (ci := 12) (v := .ref q_2) (ty := .array .int) (C := RX7) (T := TX7) (N := 7) hx hb hts (by decide +kernel) tyX7 tyX7_ok nmX7 hown hK hP hD hS 0 rfl rfl 1 (by decide) (hts (.fieldLink RX7 15 "QueryHall$Place" "have" "[I") (by decide +kernel)) (fun _ h9 => h9) rfl hin rfl (by decide +kernel) rfl rfl (Nat.le_of_ble_eq_true rfl) dX7_init_15 (fun H locs hP hD hS => ?_)
  have hP : va_P (dC, dI) vwCl [(h0, .inr (12, [.ref q_1, .ref q_2, .null, .null, .int 0, .int 0, .int 0])), (q_1, .inl (cJ, 3, .inr (.inl (fun _ => 0)))), (q_2, .inl (cI, 4, .inl (fun _ => 0)))] H := hP
  have hD : va_D A [(h0, .inr (12, [.ref q_1, .ref q_2, .null, .null, .int 0, .int 0, .int 0])), (q_1, .inl (cJ, 3, .inr (.inl (fun _ => 0)))), (q_2, .inl (cI, 4, .inl (fun _ => 0)))] := hD
  refine lv_aload_n hx hb dX7_init_18 rfl (lv_at hl 0 rfl) ?_
  refine lv_iconst (v := 4) hx hb dX7_init_19 (by decide) ?_
  refine qh_newa (atype := .int) (ty := .int) (n := 4) (N' := 4) (a0 := (4, .inl (fun _ => 0))) hx hb (hts (.arrayClass .int) (by decide +kernel)) rfl hK hP hD hS hA 0 rfl (qh_ai .int 4 rfl) (by decide) (by decide) (by decide) (Nat.le_of_ble_eq_true rfl) (Nat.le_of_ble_eq_true rfl) dX7_init_20 (fun q_3 H hP hD hS => ?_)
  have hP : va_P (dC, dI) vwCl [(h0, .inr (12, [.ref q_1, .ref q_2, .null, .null, .int 0, .int 0, .int 0])), (q_1, .inl (cJ, 3, .inr (.inl (fun _ => 0)))), (q_2, .inl (cI, 4, .inl (fun _ => 0))), (q_3, .inl (cI, 4, .inl (fun _ => 0)))] H := hP
  have hD : va_D A [(h0, .inr (12, [.ref q_1, .ref q_2, .null, .null, .int 0, .int 0, .int 0])), (q_1, .inl (cJ, 3, .inr (.inl (fun _ => 0)))), (q_2, .inl (cI, 4, .inl (fun _ => 0))), (q_3, .inl (cI, 4, .inl (fun _ => 0)))] := hD
  refine va_putF (D := (dC, dI)) (ci := 12) (v := .ref q_3) (ty := .array .int) (C := RX7) (T := TX7) (N := 7) hx hb hts (by decide +kernel) tyX7 tyX7_ok nmX7 hown hK hP hD hS 0 rfl rfl 2 (by decide) (hts (.fieldLink RX7 19 "QueryHall$Place" "want" "[I") (by decide +kernel)) (fun _ h9 => h9) rfl hin rfl (by decide +kernel) rfl rfl (Nat.le_of_ble_eq_true rfl) dX7_init_22 (fun H locs hP hD hS => ?_)
  have hP : va_P (dC, dI) vwCl [(h0, .inr (12, [.ref q_1, .ref q_2, .ref q_3, .null, .int 0, .int 0, .int 0])), (q_1, .inl (cJ, 3, .inr (.inl (fun _ => 0)))), (q_2, .inl (cI, 4, .inl (fun _ => 0))), (q_3, .inl (cI, 4, .inl (fun _ => 0)))] H := hP
  have hD : va_D A [(h0, .inr (12, [.ref q_1, .ref q_2, .ref q_3, .null, .int 0, .int 0, .int 0])), (q_1, .inl (cJ, 3, .inr (.inl (fun _ => 0)))), (q_2, .inl (cI, 4, .inl (fun _ => 0))), (q_3, .inl (cI, 4, .inl (fun _ => 0)))] := hD
  refine lv_aload_n hx hb dX7_init_25 rfl (lv_at hl 0 rfl) ?_
  refine lv_iconst (v := 4) hx hb dX7_init_26 (by decide) ?_
  refine qh_newa (atype := .int) (ty := .int) (n := 4) (N' := 4) (a0 := (4, .inl (fun _ => 0))) hx hb (hts (.arrayClass .int) (by decide +kernel)) rfl hK hP hD hS hA 0 rfl (qh_ai .int 4 rfl) (by decide) (by decide) (by decide) (Nat.le_of_ble_eq_true rfl) (Nat.le_of_ble_eq_true rfl) dX7_init_27 (fun q_4 H hP hD hS => ?_)
  have hP : va_P (dC, dI) vwCl [(h0, .inr (12, [.ref q_1, .ref q_2, .ref q_3, .null, .int 0, .int 0, .int 0])), (q_1, .inl (cJ, 3, .inr (.inl (fun _ => 0)))), (q_2, .inl (cI, 4, .inl (fun _ => 0))), (q_3, .inl (cI, 4, .inl (fun _ => 0))), (q_4, .inl (cI, 4, .inl (fun _ => 0)))] H := hP
  have hD : va_D A [(h0, .inr (12, [.ref q_1, .ref q_2, .ref q_3, .null, .int 0, .int 0, .int 0])), (q_1, .inl (cJ, 3, .inr (.inl (fun _ => 0)))), (q_2, .inl (cI, 4, .inl (fun _ => 0))), (q_3, .inl (cI, 4, .inl (fun _ => 0))), (q_4, .inl (cI, 4, .inl (fun _ => 0)))] := hD
  refine va_putF (D := (dC, dI)) (ci := 12) (v := .ref q_4) (ty := .array .int) (C := RX7) (T := TX7) (N := 7) hx hb hts (by decide +kernel) tyX7 tyX7_ok nmX7 hown hK hP hD hS 0 rfl rfl 3 (by decide) (hts (.fieldLink RX7 22 "QueryHall$Place" "queue" "[I") (by decide +kernel)) (fun _ h9 => h9) rfl hin rfl (by decide +kernel) rfl rfl (Nat.le_of_ble_eq_true rfl) dX7_init_29 (fun H locs hP hD hS => ?_)
  have hP : va_P (dC, dI) vwCl [(h0, .inr (12, [.ref q_1, .ref q_2, .ref q_3, .ref q_4, .int 0, .int 0, .int 0])), (q_1, .inl (cJ, 3, .inr (.inl (fun _ => 0)))), (q_2, .inl (cI, 4, .inl (fun _ => 0))), (q_3, .inl (cI, 4, .inl (fun _ => 0))), (q_4, .inl (cI, 4, .inl (fun _ => 0)))] H := hP
  have hD : va_D A [(h0, .inr (12, [.ref q_1, .ref q_2, .ref q_3, .ref q_4, .int 0, .int 0, .int 0])), (q_1, .inl (cJ, 3, .inr (.inl (fun _ => 0)))), (q_2, .inl (cI, 4, .inl (fun _ => 0))), (q_3, .inl (cI, 4, .inl (fun _ => 0))), (q_4, .inl (cI, 4, .inl (fun _ => 0)))] := hD
  have hP9 := hP.sub (ws' := [(h0, .inr (12, [.ref q_1, .ref q_2, .ref q_3, .ref q_4, .int 0, .int 0, .int 0])), (q_1, .inl (cJ, 3, .inr (.inl (fun _ => 0)))), (q_2, .inl (cI, 4, .inl (fun _ => 0))), (q_3, .inl (cI, 4, .inl (fun _ => 0))), (q_4, .inl (cI, 4, .inl (fun _ => 0)))]) [0, 1, 2, 3, 4] rfl
  have hD9 := hD.sub (ws' := [(h0, .inr (12, [.ref q_1, .ref q_2, .ref q_3, .ref q_4, .int 0, .int 0, .int 0])), (q_1, .inl (cJ, 3, .inr (.inl (fun _ => 0)))), (q_2, .inl (cI, 4, .inl (fun _ => 0))), (q_3, .inl (cI, 4, .inl (fun _ => 0))), (q_4, .inl (cI, 4, .inl (fun _ => 0)))]) [0, 1, 2, 3, 4] (by decide) rfl
  have hK9 := hK.sub (tys' := [(cI, .int), (cJ, .long)]) [0, 1] rfl
  exact W.vret hx hb hr (fun t ht hW => ⟨⟨(), rfl, trivial, q_1, q_2, q_3, q_4, by rw [ht]; exact hP9, va_K.moved hW.alike hK9, hD9⟩, hS.F ht⟩) hS.2.2 dX7_init_32
set_option maxHeartbeats 4000000 in
set_option maxRecDepth 100000 in
/-- Planner() -/
theorem c_X8_init (l : Launch) (dC : Nat → ClassId) (dI : Nat → Nat → Nat) (sz : Nat) (cI cJ cZ : ClassId) (h0 : Nat) : Met l yX8_init wsX8_init ({ frames := 1, cells := 6, slots := 2066, locals := 12 }) (va_Pc [.ref h0] (fun U => U.heap.size = sz ∧ va_P (dC, dI) vwCl [(h0, .inr (13, [.null, .null, .null, .null, .null, .null, .null, .null, .int 0, .int 0, .long 0, .long 0]))] U.heap ∧ va_K (dC, dI) vwCl [(cI, .int), (cJ, .long), (cZ, .boolean)] U ∧ va_D (fun _ => True) [(h0, .inr (13, [.null, .null, .null, .null, .null, .null, .null, .null, .int 0, .int 0, .long 0, .long 0]))])) (va_Qv (fun (_ : Unit) => True) (fun (_ : Unit) (t : State) => ∃ (q_1 : Nat) (q_2 : Nat) (q_3 : Nat) (q_4 : Nat) (q_5 : Nat) (q_6 : Nat), va_P (dC, dI) vwCl [(h0, .inr (13, [.ref q_1, .ref q_2, .ref q_3, .ref q_4, .ref q_5, .ref q_6, .null, .null, .int 0, .int 0, .long 0, .long 0])), (q_1, .inl (cI, 512, .inl (fun _ => 0))), (q_2, .inl (cI, 512, .inl (fun _ => 0))), (q_3, .inl (cI, 512, .inl (fun _ => 0))), (q_4, .inl (cZ, 512, .inl (fun _ => 0))), (q_5, .inl (cI, 3, .inl (fun _ => 0))), (q_6, .inl (cJ, 15, .inr (.inl (fun _ => 0))))] t.heap ∧ va_K (dC, dI) vwCl [(cI, .int), (cJ, .long), (cZ, .boolean)] t ∧ va_D (va_A [(h0, .inr (13, [.null, .null, .null, .null, .null, .null, .null, .null, .int 0, .int 0, .long 0, .long 0]))] sz) [(h0, .inr (13, [.ref q_1, .ref q_2, .ref q_3, .ref q_4, .ref q_5, .ref q_6, .null, .null, .int 0, .int 0, .long 0, .long 0])), (q_1, .inl (cI, 512, .inl (fun _ => 0))), (q_2, .inl (cI, 512, .inl (fun _ => 0))), (q_3, .inl (cI, 512, .inl (fun _ => 0))), (q_4, .inl (cZ, 512, .inl (fun _ => 0))), (q_5, .inl (cI, 3, .inl (fun _ => 0))), (q_6, .inl (cJ, 15, .inr (.inl (fun _ => 0))))]) (va_A [(h0, .inr (13, [.null, .null, .null, .null, .null, .null, .null, .null, .int 0, .int 0, .long 0, .long 0]))] sz)) 6 2066 (va_A [(h0, .inr (13, [.null, .null, .null, .null, .null, .null, .null, .null, .int 0, .int 0, .long 0, .long 0]))] sz) := by
  refine Met.ofW (cc := cX8_init) (maxL := 1) (ret := none) (by decide) rfl ?_
  intro p e s m args below meth c s₁ B hml hv
  obtain ⟨rfl, hsz, hP, hK, hD0⟩ := hv
  have hx := B.exec
  have hb := B.bytes
  have hr := B.returns
  have hts := atoms_spec (ws := wsX8_init) B.pre
  have hown : s.vm.findClass RX8 = some m.cls := findClass_of_methodNamed B.named
  have hlocks := B.notSynchronized
  have hin : meth.name = "<init>" := (name_of_methodNamed B.named B.method).1
  subst hsz
  have hD := hD0.self (sz := s.heap.size)
  generalize hAe : va_A [(h0, .inr (13, [.null, .null, .null, .null, .null, .null, .null, .null, .int 0, .int 0, .long 0, .long 0]))] s.heap.size = A at hD ⊢
  have hA : ∀ q : Nat, s.heap.size ≤ q → A q := fun q h => by rw [← hAe]; exact Or.inr h
  have hS : va_S A s.heap s.heap [] := va_S.rf
  have hP : va_P (dC, dI) vwCl [(h0, .inr (13, [.null, .null, .null, .null, .null, .null, .null, .null, .int 0, .int 0, .long 0, .long 0]))] s.heap := hP
  have hl := lv_entry ([.ref h0]) (n := 1) (Nat.le_of_ble_eq_true rfl)
  rw [lg_entry_eq]
  generalize (lg_sl ([.ref h0]) ++ List.replicate (1 - (lg_sl ([.ref h0])).length) Slot.unset).toArray = ls at hl ⊢
  have hl : lv_has ls 1 [(0, .ref h0)] := hl
  refine lv_aload_n hx hb dX8_init_0 rfl (lv_at hl 0 rfl) ?_
  refine W.objInit hx hb hown (hts (.methodLink RX8 3 objectInit) (by decide +kernel)) (hts (.instanceMethod objectInit) (by decide +kernel)) (hts (.code objectInit ⟨#[0xb1]⟩ 1 none) (by decide +kernel)) rfl (by rw [hml]; exact hl.1) rfl dX8_init_1 (Nat.le_of_ble_eq_true rfl) (Nat.le_of_ble_eq_true rfl) ?_
  refine W.eq (g2 := F0 m 4 ls []) rfl ?_
  refine lv_aload_n hx hb dX8_init_4 rfl (lv_at hl 0 rfl) ?_
  refine lv_sipush (v := 512) hx hb dX8_init_5 (by decide) ?_
  refine qh_newa (atype := .int) (ty := .int) (n := 512) (N' := 512) (a0 := (512, .inl (fun _ => 0))) hx hb (hts (.arrayClass .int) (by decide +kernel)) rfl hK hP hD hS hA 0 rfl (qh_ai .int 512 rfl) (by decide) (by decide) (by decide) (Nat.le_of_ble_eq_true rfl) (Nat.le_of_ble_eq_true rfl) dX8_init_8 (fun q_1 H hP hD hS => ?_)
  have hP : va_P (dC, dI) vwCl [(h0, .inr (13, [.null, .null, .null, .null, .null, .null, .null, .null, .int 0, .int 0, .long 0, .long 0])), (q_1, .inl (cI, 512, .inl (fun _ => 0)))] H := hP
  have hD : va_D A [(h0, .inr (13, [.null, .null, .null, .null, .null, .null, .null, .null, .int 0, .int 0, .long 0, .long 0])), (q_1, .inl (cI, 512, .inl (fun _ => 0)))] := hD
  refine va_putF (D := (dC, dI)) (ci := 13) (v := .ref q_1) (ty := .array .int) (C := RX8) (T := TX8) (N := 12) hx hb hts (by decide +kernel) tyX8 tyX8_ok nmX8 hown hK hP hD hS 0 rfl rfl 0 (by decide) (hts (.fieldLink RX8 11 "QueryHall$Planner" "parts" "[I") (by decide +kernel)) (fun _ h9 => h9) rfl hin rfl (by decide +kernel) rfl rfl (Nat.le_of_ble_eq_true rfl) dX8_init_10 (fun H locs hP hD hS => ?_)
  have hP : va_P (dC, dI) vwCl [(h0, .inr (13, [.ref q_1, .null, .null, .null, .null, .null, .null, .null, .int 0, .int 0, .long 0, .long 0])), (q_1, .inl (cI, 512, .inl (fun _ => 0)))] H := hP
  have hD : va_D A [(h0, .inr (13, [.ref q_1, .null, .null, .null, .null, .null, .null, .null, .int 0, .int 0, .long 0, .long 0])), (q_1, .inl (cI, 512, .inl (fun _ => 0)))] := hD
  refine lv_aload_n hx hb dX8_init_13 rfl (lv_at hl 0 rfl) ?_
  refine lv_sipush (v := 512) hx hb dX8_init_14 (by decide) ?_
  refine qh_newa (atype := .int) (ty := .int) (n := 512) (N' := 512) (a0 := (512, .inl (fun _ => 0))) hx hb (hts (.arrayClass .int) (by decide +kernel)) rfl hK hP hD hS hA 0 rfl (qh_ai .int 512 rfl) (by decide) (by decide) (by decide) (Nat.le_of_ble_eq_true rfl) (Nat.le_of_ble_eq_true rfl) dX8_init_17 (fun q_2 H hP hD hS => ?_)
  have hP : va_P (dC, dI) vwCl [(h0, .inr (13, [.ref q_1, .null, .null, .null, .null, .null, .null, .null, .int 0, .int 0, .long 0, .long 0])), (q_1, .inl (cI, 512, .inl (fun _ => 0))), (q_2, .inl (cI, 512, .inl (fun _ => 0)))] H := hP
  have hD : va_D A [(h0, .inr (13, [.ref q_1, .null, .null, .null, .null, .null, .null, .null, .int 0, .int 0, .long 0, .long 0])), (q_1, .inl (cI, 512, .inl (fun _ => 0))), (q_2, .inl (cI, 512, .inl (fun _ => 0)))] := hD
  refine va_putF (D := (dC, dI)) (ci := 13) (v := .ref q_2) (ty := .array .int) (C := RX8) (T := TX8) (N := 12) hx hb hts (by decide +kernel) tyX8 tyX8_ok nmX8 hown hK hP hD hS 0 rfl rfl 1 (by decide) (hts (.fieldLink RX8 17 "QueryHall$Planner" "partItems" "[I") (by decide +kernel)) (fun _ h9 => h9) rfl hin rfl (by decide +kernel) rfl rfl (Nat.le_of_ble_eq_true rfl) dX8_init_19 (fun H locs hP hD hS => ?_)
  have hP : va_P (dC, dI) vwCl [(h0, .inr (13, [.ref q_1, .ref q_2, .null, .null, .null, .null, .null, .null, .int 0, .int 0, .long 0, .long 0])), (q_1, .inl (cI, 512, .inl (fun _ => 0))), (q_2, .inl (cI, 512, .inl (fun _ => 0)))] H := hP
  have hD : va_D A [(h0, .inr (13, [.ref q_1, .ref q_2, .null, .null, .null, .null, .null, .null, .int 0, .int 0, .long 0, .long 0])), (q_1, .inl (cI, 512, .inl (fun _ => 0))), (q_2, .inl (cI, 512, .inl (fun _ => 0)))] := hD
  refine lv_aload_n hx hb dX8_init_22 rfl (lv_at hl 0 rfl) ?_
  refine lv_sipush (v := 512) hx hb dX8_init_23 (by decide) ?_
  refine qh_newa (atype := .int) (ty := .int) (n := 512) (N' := 512) (a0 := (512, .inl (fun _ => 0))) hx hb (hts (.arrayClass .int) (by decide +kernel)) rfl hK hP hD hS hA 0 rfl (qh_ai .int 512 rfl) (by decide) (by decide) (by decide) (Nat.le_of_ble_eq_true rfl) (Nat.le_of_ble_eq_true rfl) dX8_init_26 (fun q_3 H hP hD hS => ?_)
  have hP : va_P (dC, dI) vwCl [(h0, .inr (13, [.ref q_1, .ref q_2, .null, .null, .null, .null, .null, .null, .int 0, .int 0, .long 0, .long 0])), (q_1, .inl (cI, 512, .inl (fun _ => 0))), (q_2, .inl (cI, 512, .inl (fun _ => 0))), (q_3, .inl (cI, 512, .inl (fun _ => 0)))] H := hP
  have hD : va_D A [(h0, .inr (13, [.ref q_1, .ref q_2, .null, .null, .null, .null, .null, .null, .int 0, .int 0, .long 0, .long 0])), (q_1, .inl (cI, 512, .inl (fun _ => 0))), (q_2, .inl (cI, 512, .inl (fun _ => 0))), (q_3, .inl (cI, 512, .inl (fun _ => 0)))] := hD
  refine va_putF (D := (dC, dI)) (ci := 13) (v := .ref q_3) (ty := .array .int) (C := RX8) (T := TX8) (N := 12) hx hb hts (by decide +kernel) tyX8 tyX8_ok nmX8 hown hK hP hD hS 0 rfl rfl 2 (by decide) (hts (.fieldLink RX8 20 "QueryHall$Planner" "partNeeds" "[I") (by decide +kernel)) (fun _ h9 => h9) rfl hin rfl (by decide +kernel) rfl rfl (Nat.le_of_ble_eq_true rfl) dX8_init_28 (fun H locs hP hD hS => ?_)
  have hP : va_P (dC, dI) vwCl [(h0, .inr (13, [.ref q_1, .ref q_2, .ref q_3, .null, .null, .null, .null, .null, .int 0, .int 0, .long 0, .long 0])), (q_1, .inl (cI, 512, .inl (fun _ => 0))), (q_2, .inl (cI, 512, .inl (fun _ => 0))), (q_3, .inl (cI, 512, .inl (fun _ => 0)))] H := hP
  have hD : va_D A [(h0, .inr (13, [.ref q_1, .ref q_2, .ref q_3, .null, .null, .null, .null, .null, .int 0, .int 0, .long 0, .long 0])), (q_1, .inl (cI, 512, .inl (fun _ => 0))), (q_2, .inl (cI, 512, .inl (fun _ => 0))), (q_3, .inl (cI, 512, .inl (fun _ => 0)))] := hD
  refine lv_aload_n hx hb dX8_init_31 rfl (lv_at hl 0 rfl) ?_
  refine lv_sipush (v := 512) hx hb dX8_init_32 (by decide) ?_
  refine qh_newa (atype := .boolean) (ty := .boolean) (n := 512) (N' := 512) (a0 := (512, .inl (fun _ => 0))) hx hb (hts (.arrayClass .boolean) (by decide +kernel)) rfl hK hP hD hS hA 2 rfl (qh_ai .boolean 512 rfl) (by decide) (by decide) (by decide) (Nat.le_of_ble_eq_true rfl) (Nat.le_of_ble_eq_true rfl) dX8_init_35 (fun q_4 H hP hD hS => ?_)
  have hP : va_P (dC, dI) vwCl [(h0, .inr (13, [.ref q_1, .ref q_2, .ref q_3, .null, .null, .null, .null, .null, .int 0, .int 0, .long 0, .long 0])), (q_1, .inl (cI, 512, .inl (fun _ => 0))), (q_2, .inl (cI, 512, .inl (fun _ => 0))), (q_3, .inl (cI, 512, .inl (fun _ => 0))), (q_4, .inl (cZ, 512, .inl (fun _ => 0)))] H := hP
  have hD : va_D A [(h0, .inr (13, [.ref q_1, .ref q_2, .ref q_3, .null, .null, .null, .null, .null, .int 0, .int 0, .long 0, .long 0])), (q_1, .inl (cI, 512, .inl (fun _ => 0))), (q_2, .inl (cI, 512, .inl (fun _ => 0))), (q_3, .inl (cI, 512, .inl (fun _ => 0))), (q_4, .inl (cZ, 512, .inl (fun _ => 0)))] := hD
  refine va_putF (D := (dC, dI)) (ci := 13) (v := .ref q_4) (ty := .array .boolean) (C := RX8) (T := TX8) (N := 12) hx hb hts (by decide +kernel) tyX8 tyX8_ok nmX8 hown hK hP hD hS 0 rfl rfl 3 (by decide) (hts (.fieldLink RX8 23 "QueryHall$Planner" "used" "[Z") (by decide +kernel)) (fun _ h9 => h9) rfl hin rfl (by decide +kernel) rfl rfl (Nat.le_of_ble_eq_true rfl) dX8_init_37 (fun H locs hP hD hS => ?_)
  have hP : va_P (dC, dI) vwCl [(h0, .inr (13, [.ref q_1, .ref q_2, .ref q_3, .ref q_4, .null, .null, .null, .null, .int 0, .int 0, .long 0, .long 0])), (q_1, .inl (cI, 512, .inl (fun _ => 0))), (q_2, .inl (cI, 512, .inl (fun _ => 0))), (q_3, .inl (cI, 512, .inl (fun _ => 0))), (q_4, .inl (cZ, 512, .inl (fun _ => 0)))] H := hP
  have hD : va_D A [(h0, .inr (13, [.ref q_1, .ref q_2, .ref q_3, .ref q_4, .null, .null, .null, .null, .int 0, .int 0, .long 0, .long 0])), (q_1, .inl (cI, 512, .inl (fun _ => 0))), (q_2, .inl (cI, 512, .inl (fun _ => 0))), (q_3, .inl (cI, 512, .inl (fun _ => 0))), (q_4, .inl (cZ, 512, .inl (fun _ => 0)))] := hD
  refine lv_aload_n hx hb dX8_init_40 rfl (lv_at hl 0 rfl) ?_
  refine lv_iconst (v := 3) hx hb dX8_init_41 (by decide) ?_
  refine qh_newa (atype := .int) (ty := .int) (n := 3) (N' := 3) (a0 := (3, .inl (fun _ => 0))) hx hb (hts (.arrayClass .int) (by decide +kernel)) rfl hK hP hD hS hA 0 rfl (qh_ai .int 3 rfl) (by decide) (by decide) (by decide) (Nat.le_of_ble_eq_true rfl) (Nat.le_of_ble_eq_true rfl) dX8_init_42 (fun q_5 H hP hD hS => ?_)
  have hP : va_P (dC, dI) vwCl [(h0, .inr (13, [.ref q_1, .ref q_2, .ref q_3, .ref q_4, .null, .null, .null, .null, .int 0, .int 0, .long 0, .long 0])), (q_1, .inl (cI, 512, .inl (fun _ => 0))), (q_2, .inl (cI, 512, .inl (fun _ => 0))), (q_3, .inl (cI, 512, .inl (fun _ => 0))), (q_4, .inl (cZ, 512, .inl (fun _ => 0))), (q_5, .inl (cI, 3, .inl (fun _ => 0)))] H := hP
  have hD : va_D A [(h0, .inr (13, [.ref q_1, .ref q_2, .ref q_3, .ref q_4, .null, .null, .null, .null, .int 0, .int 0, .long 0, .long 0])), (q_1, .inl (cI, 512, .inl (fun _ => 0))), (q_2, .inl (cI, 512, .inl (fun _ => 0))), (q_3, .inl (cI, 512, .inl (fun _ => 0))), (q_4, .inl (cZ, 512, .inl (fun _ => 0))), (q_5, .inl (cI, 3, .inl (fun _ => 0)))] := hD
  refine va_putF (D := (dC, dI)) (ci := 13) (v := .ref q_5) (ty := .array .int) (C := RX8) (T := TX8) (N := 12) hx hb hts (by decide +kernel) tyX8 tyX8_ok nmX8 hown hK hP hD hS 0 rfl rfl 4 (by decide) (hts (.fieldLink RX8 27 "QueryHall$Planner" "order" "[I") (by decide +kernel)) (fun _ h9 => h9) rfl hin rfl (by decide +kernel) rfl rfl (Nat.le_of_ble_eq_true rfl) dX8_init_44 (fun H locs hP hD hS => ?_)
  have hP : va_P (dC, dI) vwCl [(h0, .inr (13, [.ref q_1, .ref q_2, .ref q_3, .ref q_4, .ref q_5, .null, .null, .null, .int 0, .int 0, .long 0, .long 0])), (q_1, .inl (cI, 512, .inl (fun _ => 0))), (q_2, .inl (cI, 512, .inl (fun _ => 0))), (q_3, .inl (cI, 512, .inl (fun _ => 0))), (q_4, .inl (cZ, 512, .inl (fun _ => 0))), (q_5, .inl (cI, 3, .inl (fun _ => 0)))] H := hP
  have hD : va_D A [(h0, .inr (13, [.ref q_1, .ref q_2, .ref q_3, .ref q_4, .ref q_5, .null, .null, .null, .int 0, .int 0, .long 0, .long 0])), (q_1, .inl (cI, 512, .inl (fun _ => 0))), (q_2, .inl (cI, 512, .inl (fun _ => 0))), (q_3, .inl (cI, 512, .inl (fun _ => 0))), (q_4, .inl (cZ, 512, .inl (fun _ => 0))), (q_5, .inl (cI, 3, .inl (fun _ => 0)))] := hD
  refine lv_aload_n hx hb dX8_init_47 rfl (lv_at hl 0 rfl) ?_
  refine lv_bipush (v := 15) hx hb dX8_init_48 (by decide) ?_
  refine qh_newa (atype := .long) (ty := .long) (n := 15) (N' := 15) (a0 := (15, .inr (.inl (fun _ => 0)))) hx hb (hts (.arrayClass .long) (by decide +kernel)) rfl hK hP hD hS hA 1 rfl (qh_al 15) (by decide) (by decide) (by decide) (Nat.le_of_ble_eq_true rfl) (Nat.le_of_ble_eq_true rfl) dX8_init_50 (fun q_6 H hP hD hS => ?_)
  have hP : va_P (dC, dI) vwCl [(h0, .inr (13, [.ref q_1, .ref q_2, .ref q_3, .ref q_4, .ref q_5, .null, .null, .null, .int 0, .int 0, .long 0, .long 0])), (q_1, .inl (cI, 512, .inl (fun _ => 0))), (q_2, .inl (cI, 512, .inl (fun _ => 0))), (q_3, .inl (cI, 512, .inl (fun _ => 0))), (q_4, .inl (cZ, 512, .inl (fun _ => 0))), (q_5, .inl (cI, 3, .inl (fun _ => 0))), (q_6, .inl (cJ, 15, .inr (.inl (fun _ => 0))))] H := hP
  have hD : va_D A [(h0, .inr (13, [.ref q_1, .ref q_2, .ref q_3, .ref q_4, .ref q_5, .null, .null, .null, .int 0, .int 0, .long 0, .long 0])), (q_1, .inl (cI, 512, .inl (fun _ => 0))), (q_2, .inl (cI, 512, .inl (fun _ => 0))), (q_3, .inl (cI, 512, .inl (fun _ => 0))), (q_4, .inl (cZ, 512, .inl (fun _ => 0))), (q_5, .inl (cI, 3, .inl (fun _ => 0))), (q_6, .inl (cJ, 15, .inr (.inl (fun _ => 0))))] := hD
  refine va_putF (D := (dC, dI)) (ci := 13) (v := .ref q_6) (ty := .array .long) (C := RX8) (T := TX8) (N := 12) hx hb hts (by decide +kernel) tyX8 tyX8_ok nmX8 hown hK hP hD hS 0 rfl rfl 5 (by decide) (hts (.fieldLink RX8 30 "QueryHall$Planner" "tried" "[J") (by decide +kernel)) (fun _ h9 => h9) rfl hin rfl (by decide +kernel) rfl rfl (Nat.le_of_ble_eq_true rfl) dX8_init_52 (fun H locs hP hD hS => ?_)
  have hP : va_P (dC, dI) vwCl [(h0, .inr (13, [.ref q_1, .ref q_2, .ref q_3, .ref q_4, .ref q_5, .ref q_6, .null, .null, .int 0, .int 0, .long 0, .long 0])), (q_1, .inl (cI, 512, .inl (fun _ => 0))), (q_2, .inl (cI, 512, .inl (fun _ => 0))), (q_3, .inl (cI, 512, .inl (fun _ => 0))), (q_4, .inl (cZ, 512, .inl (fun _ => 0))), (q_5, .inl (cI, 3, .inl (fun _ => 0))), (q_6, .inl (cJ, 15, .inr (.inl (fun _ => 0))))] H := hP
  have hD : va_D A [(h0, .inr (13, [.ref q_1, .ref q_2, .ref q_3, .ref q_4, .ref q_5, .ref q_6, .null, .null, .int 0, .int 0, .long 0, .long 0])), (q_1, .inl (cI, 512, .inl (fun _ => 0))), (q_2, .inl (cI, 512, .inl (fun _ => 0))), (q_3, .inl (cI, 512, .inl (fun _ => 0))), (q_4, .inl (cZ, 512, .inl (fun _ => 0))), (q_5, .inl (cI, 3, .inl (fun _ => 0))), (q_6, .inl (cJ, 15, .inr (.inl (fun _ => 0))))] := hD
  have hP9 := hP.sub (ws' := [(h0, .inr (13, [.ref q_1, .ref q_2, .ref q_3, .ref q_4, .ref q_5, .ref q_6, .null, .null, .int 0, .int 0, .long 0, .long 0])), (q_1, .inl (cI, 512, .inl (fun _ => 0))), (q_2, .inl (cI, 512, .inl (fun _ => 0))), (q_3, .inl (cI, 512, .inl (fun _ => 0))), (q_4, .inl (cZ, 512, .inl (fun _ => 0))), (q_5, .inl (cI, 3, .inl (fun _ => 0))), (q_6, .inl (cJ, 15, .inr (.inl (fun _ => 0))))]) [0, 1, 2, 3, 4, 5, 6] rfl
  have hD9 := hD.sub (ws' := [(h0, .inr (13, [.ref q_1, .ref q_2, .ref q_3, .ref q_4, .ref q_5, .ref q_6, .null, .null, .int 0, .int 0, .long 0, .long 0])), (q_1, .inl (cI, 512, .inl (fun _ => 0))), (q_2, .inl (cI, 512, .inl (fun _ => 0))), (q_3, .inl (cI, 512, .inl (fun _ => 0))), (q_4, .inl (cZ, 512, .inl (fun _ => 0))), (q_5, .inl (cI, 3, .inl (fun _ => 0))), (q_6, .inl (cJ, 15, .inr (.inl (fun _ => 0))))]) [0, 1, 2, 3, 4, 5, 6] (by decide) rfl
  have hK9 := hK.sub (tys' := [(cI, .int), (cJ, .long), (cZ, .boolean)]) [0, 1, 2] rfl
  exact W.vret hx hb hr (fun t ht hW => ⟨⟨(), rfl, trivial, q_1, q_2, q_3, q_4, q_5, q_6, by rw [ht]; exact hP9, va_K.moved hW.alike hK9, hD9⟩, hS.F ht⟩) hS.2.2 dX8_init_55
set_option maxHeartbeats 4000000 in
set_option maxRecDepth 100000 in
/-- Checker(all) -/
theorem c_X0_init (l : Launch) (dC : Nat → ClassId) (dI : Nat → Nat → Nat) (sz : Nat) (cI cZ : ClassId) (h0 ta : Nat) : Met l yX0_init wsX0_init ({ frames := 1, cells := 5, slots := 1033, locals := 12 }) (va_Pc [.ref h0, .ref ta] (fun U => U.heap.size = sz ∧ va_P (dC, dI) vwCl [(h0, .inr (5, [.null, .null, .null, .null, .null, .null, .null, .int 0, .int 0, .int 0]))] U.heap ∧ va_K (dC, dI) vwCl [(cI, .int), (cZ, .boolean)] U ∧ va_D (fun _ => True) [(h0, .inr (5, [.null, .null, .null, .null, .null, .null, .null, .int 0, .int 0, .int 0]))])) (va_Qv (fun (_ : Unit) => True) (fun (_ : Unit) (t : State) => ∃ (q_1 : Nat) (q_2 : Nat) (q_3 : Nat) (q_4 : Nat) (q_5 : Nat), va_P (dC, dI) vwCl [(h0, .inr (5, [.ref ta, .ref q_1, .ref q_2, .ref q_3, .ref q_4, .ref q_5, .null, .int 0, .int 0, .int 0])), (q_1, .inl (cI, 512, .inl (fun _ => 0))), (q_2, .inl (cI, 512, .inl (fun _ => 0))), (q_3, .inl (cZ, 3, .inl (fun _ => 0))), (q_4, .inl (cI, 3, .inl (fun _ => 0))), (q_5, .inl (cI, 3, .inl (fun _ => 0)))] t.heap ∧ va_K (dC, dI) vwCl [(cI, .int), (cZ, .boolean)] t ∧ va_D (va_A [(h0, .inr (5, [.null, .null, .null, .null, .null, .null, .null, .int 0, .int 0, .int 0]))] sz) [(h0, .inr (5, [.ref ta, .ref q_1, .ref q_2, .ref q_3, .ref q_4, .ref q_5, .null, .int 0, .int 0, .int 0])), (q_1, .inl (cI, 512, .inl (fun _ => 0))), (q_2, .inl (cI, 512, .inl (fun _ => 0))), (q_3, .inl (cZ, 3, .inl (fun _ => 0))), (q_4, .inl (cI, 3, .inl (fun _ => 0))), (q_5, .inl (cI, 3, .inl (fun _ => 0)))]) (va_A [(h0, .inr (5, [.null, .null, .null, .null, .null, .null, .null, .int 0, .int 0, .int 0]))] sz)) 5 1033 (va_A [(h0, .inr (5, [.null, .null, .null, .null, .null, .null, .null, .int 0, .int 0, .int 0]))] sz) := by
  refine Met.ofW (cc := cX0_init) (maxL := 2) (ret := none) (by decide) rfl ?_
  intro p e s m args below meth c s₁ B hml hv
  obtain ⟨rfl, hsz, hP, hK, hD0⟩ := hv
  have hx := B.exec
  have hb := B.bytes
  have hr := B.returns
  have hts := atoms_spec (ws := wsX0_init) B.pre
  have hown : s.vm.findClass RX0 = some m.cls := findClass_of_methodNamed B.named
  have hlocks := B.notSynchronized
  have hin : meth.name = "<init>" := (name_of_methodNamed B.named B.method).1
  subst hsz
  have hD := hD0.self (sz := s.heap.size)
  generalize hAe : va_A [(h0, .inr (5, [.null, .null, .null, .null, .null, .null, .null, .int 0, .int 0, .int 0]))] s.heap.size = A at hD ⊢
  have hA : ∀ q : Nat, s.heap.size ≤ q → A q := fun q h => by rw [← hAe]; exact Or.inr h
  have hS : va_S A s.heap s.heap [] := va_S.rf
  have hP : va_P (dC, dI) vwCl [(h0, .inr (5, [.null, .null, .null, .null, .null, .null, .null, .int 0, .int 0, .int 0]))] s.heap := hP
  have hl := lv_entry ([.ref h0, .ref ta]) (n := 2) (Nat.le_of_ble_eq_true rfl)
  rw [lg_entry_eq]
  generalize (lg_sl ([.ref h0, .ref ta]) ++ List.replicate (2 - (lg_sl ([.ref h0, .ref ta])).length) Slot.unset).toArray = ls at hl ⊢
  have hl : lv_has ls 2 [(0, .ref h0), (1, .ref ta)] := hl
  refine lv_aload_n hx hb dX0_init_0 rfl (lv_at hl 0 rfl) ?_
  refine W.objInit hx hb hown (hts (.methodLink RX0 3 objectInit) (by decide +kernel)) (hts (.instanceMethod objectInit) (by decide +kernel)) (hts (.code objectInit ⟨#[0xb1]⟩ 1 none) (by decide +kernel)) rfl (by rw [hml]; exact hl.1) rfl dX0_init_1 (Nat.le_of_ble_eq_true rfl) (Nat.le_of_ble_eq_true rfl) ?_
  refine W.eq (g2 := F0 m 4 ls []) rfl ?_
  refine lv_aload_n hx hb dX0_init_4 rfl (lv_at hl 0 rfl) ?_
  refine lv_sipush (v := 512) hx hb dX0_init_5 (by decide) ?_
  refine qh_newa (atype := .int) (ty := .int) (n := 512) (N' := 512) (a0 := (512, .inl (fun _ => 0))) hx hb (hts (.arrayClass .int) (by decide +kernel)) rfl hK hP hD hS hA 0 rfl (qh_ai .int 512 rfl) (by decide) (by decide) (by decide) (Nat.le_of_ble_eq_true rfl) (Nat.le_of_ble_eq_true rfl) dX0_init_8 (fun q_1 H hP hD hS => ?_)
  have hP : va_P (dC, dI) vwCl [(h0, .inr (5, [.null, .null, .null, .null, .null, .null, .null, .int 0, .int 0, .int 0])), (q_1, .inl (cI, 512, .inl (fun _ => 0)))] H := hP
  have hD : va_D A [(h0, .inr (5, [.null, .null, .null, .null, .null, .null, .null, .int 0, .int 0, .int 0])), (q_1, .inl (cI, 512, .inl (fun _ => 0)))] := hD
  refine va_putF (D := (dC, dI)) (ci := 5) (v := .ref q_1) (ty := .array .int) (C := RX0) (T := TX0) (N := 10) hx hb hts (by decide +kernel) tyX0 tyX0_ok nmX0 hown hK hP hD hS 0 rfl rfl 1 (by decide) (hts (.fieldLink RX0 11 "QueryHall$Checker" "types" "[I") (by decide +kernel)) (fun _ h9 => h9) rfl hin rfl (by decide +kernel) rfl rfl (Nat.le_of_ble_eq_true rfl) dX0_init_10 (fun H locs hP hD hS => ?_)
  have hP : va_P (dC, dI) vwCl [(h0, .inr (5, [.null, .ref q_1, .null, .null, .null, .null, .null, .int 0, .int 0, .int 0])), (q_1, .inl (cI, 512, .inl (fun _ => 0)))] H := hP
  have hD : va_D A [(h0, .inr (5, [.null, .ref q_1, .null, .null, .null, .null, .null, .int 0, .int 0, .int 0])), (q_1, .inl (cI, 512, .inl (fun _ => 0)))] := hD
  refine lv_aload_n hx hb dX0_init_13 rfl (lv_at hl 0 rfl) ?_
  refine lv_sipush (v := 512) hx hb dX0_init_14 (by decide) ?_
  refine qh_newa (atype := .int) (ty := .int) (n := 512) (N' := 512) (a0 := (512, .inl (fun _ => 0))) hx hb (hts (.arrayClass .int) (by decide +kernel)) rfl hK hP hD hS hA 0 rfl (qh_ai .int 512 rfl) (by decide) (by decide) (by decide) (Nat.le_of_ble_eq_true rfl) (Nat.le_of_ble_eq_true rfl) dX0_init_17 (fun q_2 H hP hD hS => ?_)
  have hP : va_P (dC, dI) vwCl [(h0, .inr (5, [.null, .ref q_1, .null, .null, .null, .null, .null, .int 0, .int 0, .int 0])), (q_1, .inl (cI, 512, .inl (fun _ => 0))), (q_2, .inl (cI, 512, .inl (fun _ => 0)))] H := hP
  have hD : va_D A [(h0, .inr (5, [.null, .ref q_1, .null, .null, .null, .null, .null, .int 0, .int 0, .int 0])), (q_1, .inl (cI, 512, .inl (fun _ => 0))), (q_2, .inl (cI, 512, .inl (fun _ => 0)))] := hD
  refine va_putF (D := (dC, dI)) (ci := 5) (v := .ref q_2) (ty := .array .int) (C := RX0) (T := TX0) (N := 10) hx hb hts (by decide +kernel) tyX0 tyX0_ok nmX0 hown hK hP hD hS 0 rfl rfl 2 (by decide) (hts (.fieldLink RX0 17 "QueryHall$Checker" "marksBefore" "[I") (by decide +kernel)) (fun _ h9 => h9) rfl hin rfl (by decide +kernel) rfl rfl (Nat.le_of_ble_eq_true rfl) dX0_init_19 (fun H locs hP hD hS => ?_)
  have hP : va_P (dC, dI) vwCl [(h0, .inr (5, [.null, .ref q_1, .ref q_2, .null, .null, .null, .null, .int 0, .int 0, .int 0])), (q_1, .inl (cI, 512, .inl (fun _ => 0))), (q_2, .inl (cI, 512, .inl (fun _ => 0)))] H := hP
  have hD : va_D A [(h0, .inr (5, [.null, .ref q_1, .ref q_2, .null, .null, .null, .null, .int 0, .int 0, .int 0])), (q_1, .inl (cI, 512, .inl (fun _ => 0))), (q_2, .inl (cI, 512, .inl (fun _ => 0)))] := hD
  refine lv_aload_n hx hb dX0_init_22 rfl (lv_at hl 0 rfl) ?_
  refine lv_iconst (v := 3) hx hb dX0_init_23 (by decide) ?_
  refine qh_newa (atype := .boolean) (ty := .boolean) (n := 3) (N' := 3) (a0 := (3, .inl (fun _ => 0))) hx hb (hts (.arrayClass .boolean) (by decide +kernel)) rfl hK hP hD hS hA 1 rfl (qh_ai .boolean 3 rfl) (by decide) (by decide) (by decide) (Nat.le_of_ble_eq_true rfl) (Nat.le_of_ble_eq_true rfl) dX0_init_24 (fun q_3 H hP hD hS => ?_)
  have hP : va_P (dC, dI) vwCl [(h0, .inr (5, [.null, .ref q_1, .ref q_2, .null, .null, .null, .null, .int 0, .int 0, .int 0])), (q_1, .inl (cI, 512, .inl (fun _ => 0))), (q_2, .inl (cI, 512, .inl (fun _ => 0))), (q_3, .inl (cZ, 3, .inl (fun _ => 0)))] H := hP
  have hD : va_D A [(h0, .inr (5, [.null, .ref q_1, .ref q_2, .null, .null, .null, .null, .int 0, .int 0, .int 0])), (q_1, .inl (cI, 512, .inl (fun _ => 0))), (q_2, .inl (cI, 512, .inl (fun _ => 0))), (q_3, .inl (cZ, 3, .inl (fun _ => 0)))] := hD
  refine va_putF (D := (dC, dI)) (ci := 5) (v := .ref q_3) (ty := .array .boolean) (C := RX0) (T := TX0) (N := 10) hx hb hts (by decide +kernel) tyX0 tyX0_ok nmX0 hown hK hP hD hS 0 rfl rfl 3 (by decide) (hts (.fieldLink RX0 20 "QueryHall$Checker" "inGroupedPart" "[Z") (by decide +kernel)) (fun _ h9 => h9) rfl hin rfl (by decide +kernel) rfl rfl (Nat.le_of_ble_eq_true rfl) dX0_init_26 (fun H locs hP hD hS => ?_)
  have hP : va_P (dC, dI) vwCl [(h0, .inr (5, [.null, .ref q_1, .ref q_2, .ref q_3, .null, .null, .null, .int 0, .int 0, .int 0])), (q_1, .inl (cI, 512, .inl (fun _ => 0))), (q_2, .inl (cI, 512, .inl (fun _ => 0))), (q_3, .inl (cZ, 3, .inl (fun _ => 0)))] H := hP
  have hD : va_D A [(h0, .inr (5, [.null, .ref q_1, .ref q_2, .ref q_3, .null, .null, .null, .int 0, .int 0, .int 0])), (q_1, .inl (cI, 512, .inl (fun _ => 0))), (q_2, .inl (cI, 512, .inl (fun _ => 0))), (q_3, .inl (cZ, 3, .inl (fun _ => 0)))] := hD
  refine lv_aload_n hx hb dX0_init_29 rfl (lv_at hl 0 rfl) ?_
  refine lv_iconst (v := 3) hx hb dX0_init_30 (by decide) ?_
  refine qh_newa (atype := .int) (ty := .int) (n := 3) (N' := 3) (a0 := (3, .inl (fun _ => 0))) hx hb (hts (.arrayClass .int) (by decide +kernel)) rfl hK hP hD hS hA 0 rfl (qh_ai .int 3 rfl) (by decide) (by decide) (by decide) (Nat.le_of_ble_eq_true rfl) (Nat.le_of_ble_eq_true rfl) dX0_init_31 (fun q_4 H hP hD hS => ?_)
  have hP : va_P (dC, dI) vwCl [(h0, .inr (5, [.null, .ref q_1, .ref q_2, .ref q_3, .null, .null, .null, .int 0, .int 0, .int 0])), (q_1, .inl (cI, 512, .inl (fun _ => 0))), (q_2, .inl (cI, 512, .inl (fun _ => 0))), (q_3, .inl (cZ, 3, .inl (fun _ => 0))), (q_4, .inl (cI, 3, .inl (fun _ => 0)))] H := hP
  have hD : va_D A [(h0, .inr (5, [.null, .ref q_1, .ref q_2, .ref q_3, .null, .null, .null, .int 0, .int 0, .int 0])), (q_1, .inl (cI, 512, .inl (fun _ => 0))), (q_2, .inl (cI, 512, .inl (fun _ => 0))), (q_3, .inl (cZ, 3, .inl (fun _ => 0))), (q_4, .inl (cI, 3, .inl (fun _ => 0)))] := hD
  refine va_putF (D := (dC, dI)) (ci := 5) (v := .ref q_4) (ty := .array .int) (C := RX0) (T := TX0) (N := 10) hx hb hts (by decide +kernel) tyX0 tyX0_ok nmX0 hown hK hP hD hS 0 rfl rfl 4 (by decide) (hts (.fieldLink RX0 24 "QueryHall$Checker" "aggsAround" "[I") (by decide +kernel)) (fun _ h9 => h9) rfl hin rfl (by decide +kernel) rfl rfl (Nat.le_of_ble_eq_true rfl) dX0_init_33 (fun H locs hP hD hS => ?_)
  have hP : va_P (dC, dI) vwCl [(h0, .inr (5, [.null, .ref q_1, .ref q_2, .ref q_3, .ref q_4, .null, .null, .int 0, .int 0, .int 0])), (q_1, .inl (cI, 512, .inl (fun _ => 0))), (q_2, .inl (cI, 512, .inl (fun _ => 0))), (q_3, .inl (cZ, 3, .inl (fun _ => 0))), (q_4, .inl (cI, 3, .inl (fun _ => 0)))] H := hP
  have hD : va_D A [(h0, .inr (5, [.null, .ref q_1, .ref q_2, .ref q_3, .ref q_4, .null, .null, .int 0, .int 0, .int 0])), (q_1, .inl (cI, 512, .inl (fun _ => 0))), (q_2, .inl (cI, 512, .inl (fun _ => 0))), (q_3, .inl (cZ, 3, .inl (fun _ => 0))), (q_4, .inl (cI, 3, .inl (fun _ => 0)))] := hD
  refine lv_aload_n hx hb dX0_init_36 rfl (lv_at hl 0 rfl) ?_
  refine lv_iconst (v := 3) hx hb dX0_init_37 (by decide) ?_
  refine qh_newa (atype := .int) (ty := .int) (n := 3) (N' := 3) (a0 := (3, .inl (fun _ => 0))) hx hb (hts (.arrayClass .int) (by decide +kernel)) rfl hK hP hD hS hA 0 rfl (qh_ai .int 3 rfl) (by decide) (by decide) (by decide) (Nat.le_of_ble_eq_true rfl) (Nat.le_of_ble_eq_true rfl) dX0_init_38 (fun q_5 H hP hD hS => ?_)
  have hP : va_P (dC, dI) vwCl [(h0, .inr (5, [.null, .ref q_1, .ref q_2, .ref q_3, .ref q_4, .null, .null, .int 0, .int 0, .int 0])), (q_1, .inl (cI, 512, .inl (fun _ => 0))), (q_2, .inl (cI, 512, .inl (fun _ => 0))), (q_3, .inl (cZ, 3, .inl (fun _ => 0))), (q_4, .inl (cI, 3, .inl (fun _ => 0))), (q_5, .inl (cI, 3, .inl (fun _ => 0)))] H := hP
  have hD : va_D A [(h0, .inr (5, [.null, .ref q_1, .ref q_2, .ref q_3, .ref q_4, .null, .null, .int 0, .int 0, .int 0])), (q_1, .inl (cI, 512, .inl (fun _ => 0))), (q_2, .inl (cI, 512, .inl (fun _ => 0))), (q_3, .inl (cZ, 3, .inl (fun _ => 0))), (q_4, .inl (cI, 3, .inl (fun _ => 0))), (q_5, .inl (cI, 3, .inl (fun _ => 0)))] := hD
  refine va_putF (D := (dC, dI)) (ci := 5) (v := .ref q_5) (ty := .array .int) (C := RX0) (T := TX0) (N := 10) hx hb hts (by decide +kernel) tyX0 tyX0_ok nmX0 hown hK hP hD hS 0 rfl rfl 5 (by decide) (hts (.fieldLink RX0 27 "QueryHall$Checker" "seenItems" "[I") (by decide +kernel)) (fun _ h9 => h9) rfl hin rfl (by decide +kernel) rfl rfl (Nat.le_of_ble_eq_true rfl) dX0_init_40 (fun H locs hP hD hS => ?_)
  have hP : va_P (dC, dI) vwCl [(h0, .inr (5, [.null, .ref q_1, .ref q_2, .ref q_3, .ref q_4, .ref q_5, .null, .int 0, .int 0, .int 0])), (q_1, .inl (cI, 512, .inl (fun _ => 0))), (q_2, .inl (cI, 512, .inl (fun _ => 0))), (q_3, .inl (cZ, 3, .inl (fun _ => 0))), (q_4, .inl (cI, 3, .inl (fun _ => 0))), (q_5, .inl (cI, 3, .inl (fun _ => 0)))] H := hP
  have hD : va_D A [(h0, .inr (5, [.null, .ref q_1, .ref q_2, .ref q_3, .ref q_4, .ref q_5, .null, .int 0, .int 0, .int 0])), (q_1, .inl (cI, 512, .inl (fun _ => 0))), (q_2, .inl (cI, 512, .inl (fun _ => 0))), (q_3, .inl (cZ, 3, .inl (fun _ => 0))), (q_4, .inl (cI, 3, .inl (fun _ => 0))), (q_5, .inl (cI, 3, .inl (fun _ => 0)))] := hD
  refine lv_aload_n hx hb dX0_init_43 rfl (lv_at hl 0 rfl) ?_
  refine lv_aload_n hx hb dX0_init_44 rfl (lv_at hl 1 rfl) ?_
  refine va_putF (D := (dC, dI)) (ci := 5) (v := .ref ta) (ty := .array (.object "QueryHall$Table")) (C := RX0) (T := TX0) (N := 10) hx hb hts (by decide +kernel) tyX0 tyX0_ok nmX0 hown hK hP hD hS 0 rfl rfl 0 (by decide) (hts (.fieldLink RX0 30 "QueryHall$Checker" "tables" "[LQueryHall$Table;") (by decide +kernel)) (fun _ h9 => h9) rfl hin rfl (by decide +kernel) rfl rfl (Nat.le_of_ble_eq_true rfl) dX0_init_45 (fun H locs hP hD hS => ?_)
  have hP : va_P (dC, dI) vwCl [(h0, .inr (5, [.ref ta, .ref q_1, .ref q_2, .ref q_3, .ref q_4, .ref q_5, .null, .int 0, .int 0, .int 0])), (q_1, .inl (cI, 512, .inl (fun _ => 0))), (q_2, .inl (cI, 512, .inl (fun _ => 0))), (q_3, .inl (cZ, 3, .inl (fun _ => 0))), (q_4, .inl (cI, 3, .inl (fun _ => 0))), (q_5, .inl (cI, 3, .inl (fun _ => 0)))] H := hP
  have hD : va_D A [(h0, .inr (5, [.ref ta, .ref q_1, .ref q_2, .ref q_3, .ref q_4, .ref q_5, .null, .int 0, .int 0, .int 0])), (q_1, .inl (cI, 512, .inl (fun _ => 0))), (q_2, .inl (cI, 512, .inl (fun _ => 0))), (q_3, .inl (cZ, 3, .inl (fun _ => 0))), (q_4, .inl (cI, 3, .inl (fun _ => 0))), (q_5, .inl (cI, 3, .inl (fun _ => 0)))] := hD
  have hP9 := hP.sub (ws' := [(h0, .inr (5, [.ref ta, .ref q_1, .ref q_2, .ref q_3, .ref q_4, .ref q_5, .null, .int 0, .int 0, .int 0])), (q_1, .inl (cI, 512, .inl (fun _ => 0))), (q_2, .inl (cI, 512, .inl (fun _ => 0))), (q_3, .inl (cZ, 3, .inl (fun _ => 0))), (q_4, .inl (cI, 3, .inl (fun _ => 0))), (q_5, .inl (cI, 3, .inl (fun _ => 0)))]) [0, 1, 2, 3, 4, 5] rfl
  have hD9 := hD.sub (ws' := [(h0, .inr (5, [.ref ta, .ref q_1, .ref q_2, .ref q_3, .ref q_4, .ref q_5, .null, .int 0, .int 0, .int 0])), (q_1, .inl (cI, 512, .inl (fun _ => 0))), (q_2, .inl (cI, 512, .inl (fun _ => 0))), (q_3, .inl (cZ, 3, .inl (fun _ => 0))), (q_4, .inl (cI, 3, .inl (fun _ => 0))), (q_5, .inl (cI, 3, .inl (fun _ => 0)))]) [0, 1, 2, 3, 4, 5] (by decide) rfl
  have hK9 := hK.sub (tys' := [(cI, .int), (cZ, .boolean)]) [0, 1] rfl
  exact W.vret hx hb hr (fun t ht hW => ⟨⟨(), rfl, trivial, q_1, q_2, q_3, q_4, q_5, by rw [ht]; exact hP9, va_K.moved hW.alike hK9, hD9⟩, hS.F ht⟩) hS.2.2 dX0_init_48
set_option maxHeartbeats 4000000 in
set_option maxRecDepth 100000 in
/-- Select(): three Items -/
theorem c_X9_init (l : Launch) (dC : Nat → ClassId) (dI : Nat → Nat → Nat) (sz : Nat) (cI cZ cIt : ClassId) (h0 : Nat) : Met l yX9_init wsX9_init ({ frames := 2, cells := 8, slots := 42, locals := 32 }) (va_Pc [.ref h0] (fun U => U.heap.size = sz ∧ va_P (dC, dI) vwCl [(h0, .inr (14, [.null, .null, .null, .null, .null, .null, .int 0, .int 0, .int 0, .int 0, .int 0, .int 0, .int 0, .int 0, .int 0, .int 0, .int 0, .int 0]))] U.heap ∧ va_K (dC, dI) vwCl [(cI, .int), (cZ, .boolean), (cIt, .object RX3)] U ∧ va_D (fun _ => True) [(h0, .inr (14, [.null, .null, .null, .null, .null, .null, .int 0, .int 0, .int 0, .int 0, .int 0, .int 0, .int 0, .int 0, .int 0, .int 0, .int 0, .int 0]))] ∧ va_AO RX3 U ∧ va_Nw (.methodLinkNest RX9 31 yX3_init "QueryHall") U)) (va_Qv (fun (_ : Unit) => True) (fun (_ : Unit) (t : State) => ∃ (q_1 : Nat) (q_2 : Nat) (q_3 : Nat) (q_4 : Nat) (q_5 : Nat) (q_7 : Nat) (q_10 : Nat) (q_13 : Nat), va_P (dC, dI) vwCl [(h0, .inr (14, [.ref q_1, .ref q_2, .ref q_3, .ref q_4, .ref q_5, .null, .int 0, .int 0, .int 0, .int 0, .int 0, .int 0, .int 0, .int 0, .int 0, .int 0, .int 0, .int 0])), (q_1, .inl (cI, 6, .inl (fun _ => 0))), (q_2, .inl (cIt, 3, .inr (.inr (.inr (.inr (va_up (va_up (va_up (fun _ => none) 0 (some q_7)) 1 (some q_10)) 2 (some q_13))))))), (q_3, .inl (cI, 3, .inl (fun _ => 0))), (q_4, .inl (cI, 3, .inl (fun _ => 0))), (q_5, .inl (cZ, 3, .inl (fun _ => 0))), (q_7, .inr (8, [.long 0, .long 0, .int 0, .int 0, .int 0, .int 0, .int 0, .null])), (q_10, .inr (8, [.long 0, .long 0, .int 0, .int 0, .int 0, .int 0, .int 0, .null])), (q_13, .inr (8, [.long 0, .long 0, .int 0, .int 0, .int 0, .int 0, .int 0, .null]))] t.heap ∧ va_K (dC, dI) vwCl [(cI, .int), (cZ, .boolean), (cIt, .object RX3)] t ∧ va_D (va_A [(h0, .inr (14, [.null, .null, .null, .null, .null, .null, .int 0, .int 0, .int 0, .int 0, .int 0, .int 0, .int 0, .int 0, .int 0, .int 0, .int 0, .int 0]))] sz) [(h0, .inr (14, [.ref q_1, .ref q_2, .ref q_3, .ref q_4, .ref q_5, .null, .int 0, .int 0, .int 0, .int 0, .int 0, .int 0, .int 0, .int 0, .int 0, .int 0, .int 0, .int 0])), (q_1, .inl (cI, 6, .inl (fun _ => 0))), (q_2, .inl (cIt, 3, .inr (.inr (.inr (.inr (va_up (va_up (va_up (fun _ => none) 0 (some q_7)) 1 (some q_10)) 2 (some q_13))))))), (q_3, .inl (cI, 3, .inl (fun _ => 0))), (q_4, .inl (cI, 3, .inl (fun _ => 0))), (q_5, .inl (cZ, 3, .inl (fun _ => 0))), (q_7, .inr (8, [.long 0, .long 0, .int 0, .int 0, .int 0, .int 0, .int 0, .null])), (q_10, .inr (8, [.long 0, .long 0, .int 0, .int 0, .int 0, .int 0, .int 0, .null])), (q_13, .inr (8, [.long 0, .long 0, .int 0, .int 0, .int 0, .int 0, .int 0, .null]))]) (va_A [(h0, .inr (14, [.null, .null, .null, .null, .null, .null, .int 0, .int 0, .int 0, .int 0, .int 0, .int 0, .int 0, .int 0, .int 0, .int 0, .int 0, .int 0]))] sz)) 8 42 (va_A [(h0, .inr (14, [.null, .null, .null, .null, .null, .null, .int 0, .int 0, .int 0, .int 0, .int 0, .int 0, .int 0, .int 0, .int 0, .int 0, .int 0, .int 0]))] sz) := by
  refine Met.ofW (cc := cX9_init) (maxL := 2) (ret := none) (by decide) rfl ?_
  intro p e s m args below meth c s₁ B hml hv
  obtain ⟨rfl, hsz, hP, hK, hD0, hE0, hE1⟩ := hv
  have hx := B.exec
  have hb := B.bytes
  have hr := B.returns
  have hts := atoms_spec (ws := wsX9_init) B.pre
  have hown : s.vm.findClass RX9 = some m.cls := findClass_of_methodNamed B.named
  have hlocks := B.notSynchronized
  have hin : meth.name = "<init>" := (name_of_methodNamed B.named B.method).1
  subst hsz
  have hD := hD0.self (sz := s.heap.size)
  generalize hAe : va_A [(h0, .inr (14, [.null, .null, .null, .null, .null, .null, .int 0, .int 0, .int 0, .int 0, .int 0, .int 0, .int 0, .int 0, .int 0, .int 0, .int 0, .int 0]))] s.heap.size = A at hD ⊢
  have hA : ∀ q : Nat, s.heap.size ≤ q → A q := fun q h => by rw [← hAe]; exact Or.inr h
  have hS : va_S A s.heap s.heap [] := va_S.rf
  have hP : va_P (dC, dI) vwCl [(h0, .inr (14, [.null, .null, .null, .null, .null, .null, .int 0, .int 0, .int 0, .int 0, .int 0, .int 0, .int 0, .int 0, .int 0, .int 0, .int 0, .int 0]))] s.heap := hP
  have hl := lv_entry ([.ref h0]) (n := 2) (Nat.le_of_ble_eq_true rfl)
  rw [lg_entry_eq]
  generalize (lg_sl ([.ref h0]) ++ List.replicate (2 - (lg_sl ([.ref h0])).length) Slot.unset).toArray = ls at hl ⊢
  have hl : lv_has ls 2 [(0, .ref h0)] := hl
  refine lv_aload_n hx hb dX9_init_0 rfl (lv_at hl 0 rfl) ?_
  refine W.objInit hx hb hown (hts (.methodLink RX9 3 objectInit) (by decide +kernel)) (hts (.instanceMethod objectInit) (by decide +kernel)) (hts (.code objectInit ⟨#[0xb1]⟩ 1 none) (by decide +kernel)) rfl (by rw [hml]; exact hl.1) rfl dX9_init_1 (Nat.le_of_ble_eq_true rfl) (Nat.le_of_ble_eq_true rfl) ?_
  refine W.eq (g2 := F0 m 4 ls []) rfl ?_
  refine lv_aload_n hx hb dX9_init_4 rfl (lv_at hl 0 rfl) ?_
  refine lv_bipush (v := 6) hx hb dX9_init_5 (by decide) ?_
  refine qh_newa (atype := .int) (ty := .int) (n := 6) (N' := 6) (a0 := (6, .inl (fun _ => 0))) hx hb (hts (.arrayClass .int) (by decide +kernel)) rfl hK hP hD hS hA 0 rfl (qh_ai .int 6 rfl) (by decide) (by decide) (by decide) (Nat.le_of_ble_eq_true rfl) (Nat.le_of_ble_eq_true rfl) dX9_init_7 (fun q_1 H hP hD hS => ?_)
  have hP : va_P (dC, dI) vwCl [(h0, .inr (14, [.null, .null, .null, .null, .null, .null, .int 0, .int 0, .int 0, .int 0, .int 0, .int 0, .int 0, .int 0, .int 0, .int 0, .int 0, .int 0])), (q_1, .inl (cI, 6, .inl (fun _ => 0)))] H := hP
  have hD : va_D A [(h0, .inr (14, [.null, .null, .null, .null, .null, .null, .int 0, .int 0, .int 0, .int 0, .int 0, .int 0, .int 0, .int 0, .int 0, .int 0, .int 0, .int 0])), (q_1, .inl (cI, 6, .inl (fun _ => 0)))] := hD
  refine va_putF (D := (dC, dI)) (ci := 14) (v := .ref q_1) (ty := .array .int) (C := RX9) (T := TX9) (N := 18) hx hb hts (by decide +kernel) tyX9 tyX9_ok nmX9 hown hK hP hD hS 0 rfl rfl 0 (by decide) (hts (.fieldLink RX9 9 "QueryHall$Select" "list" "[I") (by decide +kernel)) (fun _ h9 => h9) rfl hin rfl (by decide +kernel) rfl rfl (Nat.le_of_ble_eq_true rfl) dX9_init_9 (fun H locs hP hD hS => ?_)
  have hP : va_P (dC, dI) vwCl [(h0, .inr (14, [.ref q_1, .null, .null, .null, .null, .null, .int 0, .int 0, .int 0, .int 0, .int 0, .int 0, .int 0, .int 0, .int 0, .int 0, .int 0, .int 0])), (q_1, .inl (cI, 6, .inl (fun _ => 0)))] H := hP
  have hD : va_D A [(h0, .inr (14, [.ref q_1, .null, .null, .null, .null, .null, .int 0, .int 0, .int 0, .int 0, .int 0, .int 0, .int 0, .int 0, .int 0, .int 0, .int 0, .int 0])), (q_1, .inl (cI, 6, .inl (fun _ => 0)))] := hD
  refine lv_aload_n hx hb dX9_init_12 rfl (lv_at hl 0 rfl) ?_
  refine lv_iconst (v := 3) hx hb dX9_init_13 (by decide) ?_
  refine qh_newq (own := RX9) (C := RX3) (n := 3) (N' := 3) hx hb hown (hts (.classLink RX9 15 RX3) (by decide +kernel)) hE0 hK hP hD hS hA 2 rfl (by decide) (by decide) (by decide) (Nat.le_of_ble_eq_true rfl) (Nat.le_of_ble_eq_true rfl) dX9_init_14 (fun q_2 H hP hD hS => ?_)
  have hP : va_P (dC, dI) vwCl [(h0, .inr (14, [.ref q_1, .null, .null, .null, .null, .null, .int 0, .int 0, .int 0, .int 0, .int 0, .int 0, .int 0, .int 0, .int 0, .int 0, .int 0, .int 0])), (q_1, .inl (cI, 6, .inl (fun _ => 0))), (q_2, .inl (cIt, 3, .inr (.inr (.inr (.inr (fun _ => none))))))] H := hP
  have hD : va_D A [(h0, .inr (14, [.ref q_1, .null, .null, .null, .null, .null, .int 0, .int 0, .int 0, .int 0, .int 0, .int 0, .int 0, .int 0, .int 0, .int 0, .int 0, .int 0])), (q_1, .inl (cI, 6, .inl (fun _ => 0))), (q_2, .inl (cIt, 3, .inr (.inr (.inr (.inr (fun _ => none))))))] := hD
  refine va_putF (D := (dC, dI)) (ci := 14) (v := .ref q_2) (ty := .array (.object "QueryHall$Item")) (C := RX9) (T := TX9) (N := 18) hx hb hts (by decide +kernel) tyX9 tyX9_ok nmX9 hown hK hP hD hS 0 rfl rfl 1 (by decide) (hts (.fieldLink RX9 17 "QueryHall$Select" "items" "[LQueryHall$Item;") (by decide +kernel)) (fun _ h9 => h9) rfl hin rfl (by decide +kernel) rfl rfl (Nat.le_of_ble_eq_true rfl) dX9_init_17 (fun H locs hP hD hS => ?_)
  have hP : va_P (dC, dI) vwCl [(h0, .inr (14, [.ref q_1, .ref q_2, .null, .null, .null, .null, .int 0, .int 0, .int 0, .int 0, .int 0, .int 0, .int 0, .int 0, .int 0, .int 0, .int 0, .int 0])), (q_1, .inl (cI, 6, .inl (fun _ => 0))), (q_2, .inl (cIt, 3, .inr (.inr (.inr (.inr (fun _ => none))))))] H := hP
  have hD : va_D A [(h0, .inr (14, [.ref q_1, .ref q_2, .null, .null, .null, .null, .int 0, .int 0, .int 0, .int 0, .int 0, .int 0, .int 0, .int 0, .int 0, .int 0, .int 0, .int 0])), (q_1, .inl (cI, 6, .inl (fun _ => 0))), (q_2, .inl (cIt, 3, .inr (.inr (.inr (.inr (fun _ => none))))))] := hD
  refine lv_aload_n hx hb dX9_init_20 rfl (lv_at hl 0 rfl) ?_
  refine lv_iconst (v := 3) hx hb dX9_init_21 (by decide) ?_
  refine qh_newa (atype := .int) (ty := .int) (n := 3) (N' := 3) (a0 := (3, .inl (fun _ => 0))) hx hb (hts (.arrayClass .int) (by decide +kernel)) rfl hK hP hD hS hA 0 rfl (qh_ai .int 3 rfl) (by decide) (by decide) (by decide) (Nat.le_of_ble_eq_true rfl) (Nat.le_of_ble_eq_true rfl) dX9_init_22 (fun q_3 H hP hD hS => ?_)
  have hP : va_P (dC, dI) vwCl [(h0, .inr (14, [.ref q_1, .ref q_2, .null, .null, .null, .null, .int 0, .int 0, .int 0, .int 0, .int 0, .int 0, .int 0, .int 0, .int 0, .int 0, .int 0, .int 0])), (q_1, .inl (cI, 6, .inl (fun _ => 0))), (q_2, .inl (cIt, 3, .inr (.inr (.inr (.inr (fun _ => none)))))), (q_3, .inl (cI, 3, .inl (fun _ => 0)))] H := hP
  have hD : va_D A [(h0, .inr (14, [.ref q_1, .ref q_2, .null, .null, .null, .null, .int 0, .int 0, .int 0, .int 0, .int 0, .int 0, .int 0, .int 0, .int 0, .int 0, .int 0, .int 0])), (q_1, .inl (cI, 6, .inl (fun _ => 0))), (q_2, .inl (cIt, 3, .inr (.inr (.inr (.inr (fun _ => none)))))), (q_3, .inl (cI, 3, .inl (fun _ => 0)))] := hD
  refine va_putF (D := (dC, dI)) (ci := 14) (v := .ref q_3) (ty := .array .int) (C := RX9) (T := TX9) (N := 18) hx hb hts (by decide +kernel) tyX9 tyX9_ok nmX9 hown hK hP hD hS 0 rfl rfl 2 (by decide) (hts (.fieldLink RX9 21 "QueryHall$Select" "group" "[I") (by decide +kernel)) (fun _ h9 => h9) rfl hin rfl (by decide +kernel) rfl rfl (Nat.le_of_ble_eq_true rfl) dX9_init_24 (fun H locs hP hD hS => ?_)
  have hP : va_P (dC, dI) vwCl [(h0, .inr (14, [.ref q_1, .ref q_2, .ref q_3, .null, .null, .null, .int 0, .int 0, .int 0, .int 0, .int 0, .int 0, .int 0, .int 0, .int 0, .int 0, .int 0, .int 0])), (q_1, .inl (cI, 6, .inl (fun _ => 0))), (q_2, .inl (cIt, 3, .inr (.inr (.inr (.inr (fun _ => none)))))), (q_3, .inl (cI, 3, .inl (fun _ => 0)))] H := hP
  have hD : va_D A [(h0, .inr (14, [.ref q_1, .ref q_2, .ref q_3, .null, .null, .null, .int 0, .int 0, .int 0, .int 0, .int 0, .int 0, .int 0, .int 0, .int 0, .int 0, .int 0, .int 0])), (q_1, .inl (cI, 6, .inl (fun _ => 0))), (q_2, .inl (cIt, 3, .inr (.inr (.inr (.inr (fun _ => none)))))), (q_3, .inl (cI, 3, .inl (fun _ => 0)))] := hD
  refine lv_aload_n hx hb dX9_init_27 rfl (lv_at hl 0 rfl) ?_
  refine lv_iconst (v := 3) hx hb dX9_init_28 (by decide) ?_
  refine qh_newa (atype := .int) (ty := .int) (n := 3) (N' := 3) (a0 := (3, .inl (fun _ => 0))) hx hb (hts (.arrayClass .int) (by decide +kernel)) rfl hK hP hD hS hA 0 rfl (qh_ai .int 3 rfl) (by decide) (by decide) (by decide) (Nat.le_of_ble_eq_true rfl) (Nat.le_of_ble_eq_true rfl) dX9_init_29 (fun q_4 H hP hD hS => ?_)
  have hP : va_P (dC, dI) vwCl [(h0, .inr (14, [.ref q_1, .ref q_2, .ref q_3, .null, .null, .null, .int 0, .int 0, .int 0, .int 0, .int 0, .int 0, .int 0, .int 0, .int 0, .int 0, .int 0, .int 0])), (q_1, .inl (cI, 6, .inl (fun _ => 0))), (q_2, .inl (cIt, 3, .inr (.inr (.inr (.inr (fun _ => none)))))), (q_3, .inl (cI, 3, .inl (fun _ => 0))), (q_4, .inl (cI, 3, .inl (fun _ => 0)))] H := hP
  have hD : va_D A [(h0, .inr (14, [.ref q_1, .ref q_2, .ref q_3, .null, .null, .null, .int 0, .int 0, .int 0, .int 0, .int 0, .int 0, .int 0, .int 0, .int 0, .int 0, .int 0, .int 0])), (q_1, .inl (cI, 6, .inl (fun _ => 0))), (q_2, .inl (cIt, 3, .inr (.inr (.inr (.inr (fun _ => none)))))), (q_3, .inl (cI, 3, .inl (fun _ => 0))), (q_4, .inl (cI, 3, .inl (fun _ => 0)))] := hD
  refine va_putF (D := (dC, dI)) (ci := 14) (v := .ref q_4) (ty := .array .int) (C := RX9) (T := TX9) (N := 18) hx hb hts (by decide +kernel) tyX9 tyX9_ok nmX9 hown hK hP hD hS 0 rfl rfl 3 (by decide) (hts (.fieldLink RX9 24 "QueryHall$Select" "order" "[I") (by decide +kernel)) (fun _ h9 => h9) rfl hin rfl (by decide +kernel) rfl rfl (Nat.le_of_ble_eq_true rfl) dX9_init_31 (fun H locs hP hD hS => ?_)
  have hP : va_P (dC, dI) vwCl [(h0, .inr (14, [.ref q_1, .ref q_2, .ref q_3, .ref q_4, .null, .null, .int 0, .int 0, .int 0, .int 0, .int 0, .int 0, .int 0, .int 0, .int 0, .int 0, .int 0, .int 0])), (q_1, .inl (cI, 6, .inl (fun _ => 0))), (q_2, .inl (cIt, 3, .inr (.inr (.inr (.inr (fun _ => none)))))), (q_3, .inl (cI, 3, .inl (fun _ => 0))), (q_4, .inl (cI, 3, .inl (fun _ => 0)))] H := hP
  have hD : va_D A [(h0, .inr (14, [.ref q_1, .ref q_2, .ref q_3, .ref q_4, .null, .null, .int 0, .int 0, .int 0, .int 0, .int 0, .int 0, .int 0, .int 0, .int 0, .int 0, .int 0, .int 0])), (q_1, .inl (cI, 6, .inl (fun _ => 0))), (q_2, .inl (cIt, 3, .inr (.inr (.inr (.inr (fun _ => none)))))), (q_3, .inl (cI, 3, .inl (fun _ => 0))), (q_4, .inl (cI, 3, .inl (fun _ => 0)))] := hD
  refine lv_aload_n hx hb dX9_init_34 rfl (lv_at hl 0 rfl) ?_
  refine lv_iconst (v := 3) hx hb dX9_init_35 (by decide) ?_
  refine qh_newa (atype := .boolean) (ty := .boolean) (n := 3) (N' := 3) (a0 := (3, .inl (fun _ => 0))) hx hb (hts (.arrayClass .boolean) (by decide +kernel)) rfl hK hP hD hS hA 1 rfl (qh_ai .boolean 3 rfl) (by decide) (by decide) (by decide) (Nat.le_of_ble_eq_true rfl) (Nat.le_of_ble_eq_true rfl) dX9_init_36 (fun q_5 H hP hD hS => ?_)
  have hP : va_P (dC, dI) vwCl [(h0, .inr (14, [.ref q_1, .ref q_2, .ref q_3, .ref q_4, .null, .null, .int 0, .int 0, .int 0, .int 0, .int 0, .int 0, .int 0, .int 0, .int 0, .int 0, .int 0, .int 0])), (q_1, .inl (cI, 6, .inl (fun _ => 0))), (q_2, .inl (cIt, 3, .inr (.inr (.inr (.inr (fun _ => none)))))), (q_3, .inl (cI, 3, .inl (fun _ => 0))), (q_4, .inl (cI, 3, .inl (fun _ => 0))), (q_5, .inl (cZ, 3, .inl (fun _ => 0)))] H := hP
  have hD : va_D A [(h0, .inr (14, [.ref q_1, .ref q_2, .ref q_3, .ref q_4, .null, .null, .int 0, .int 0, .int 0, .int 0, .int 0, .int 0, .int 0, .int 0, .int 0, .int 0, .int 0, .int 0])), (q_1, .inl (cI, 6, .inl (fun _ => 0))), (q_2, .inl (cIt, 3, .inr (.inr (.inr (.inr (fun _ => none)))))), (q_3, .inl (cI, 3, .inl (fun _ => 0))), (q_4, .inl (cI, 3, .inl (fun _ => 0))), (q_5, .inl (cZ, 3, .inl (fun _ => 0)))] := hD
  refine va_putF (D := (dC, dI)) (ci := 14) (v := .ref q_5) (ty := .array .boolean) (C := RX9) (T := TX9) (N := 18) hx hb hts (by decide +kernel) tyX9 tyX9_ok nmX9 hown hK hP hD hS 0 rfl rfl 4 (by decide) (hts (.fieldLink RX9 27 "QueryHall$Select" "desc" "[Z") (by decide +kernel)) (fun _ h9 => h9) rfl hin rfl (by decide +kernel) rfl rfl (Nat.le_of_ble_eq_true rfl) dX9_init_38 (fun H locs hP hD hS => ?_)
  have hP : va_P (dC, dI) vwCl [(h0, .inr (14, [.ref q_1, .ref q_2, .ref q_3, .ref q_4, .ref q_5, .null, .int 0, .int 0, .int 0, .int 0, .int 0, .int 0, .int 0, .int 0, .int 0, .int 0, .int 0, .int 0])), (q_1, .inl (cI, 6, .inl (fun _ => 0))), (q_2, .inl (cIt, 3, .inr (.inr (.inr (.inr (fun _ => none)))))), (q_3, .inl (cI, 3, .inl (fun _ => 0))), (q_4, .inl (cI, 3, .inl (fun _ => 0))), (q_5, .inl (cZ, 3, .inl (fun _ => 0)))] H := hP
  have hD : va_D A [(h0, .inr (14, [.ref q_1, .ref q_2, .ref q_3, .ref q_4, .ref q_5, .null, .int 0, .int 0, .int 0, .int 0, .int 0, .int 0, .int 0, .int 0, .int 0, .int 0, .int 0, .int 0])), (q_1, .inl (cI, 6, .inl (fun _ => 0))), (q_2, .inl (cIt, 3, .inr (.inr (.inr (.inr (fun _ => none)))))), (q_3, .inl (cI, 3, .inl (fun _ => 0))), (q_4, .inl (cI, 3, .inl (fun _ => 0))), (q_5, .inl (cZ, 3, .inl (fun _ => 0)))] := hD
  refine lv_iconst (v := 0) hx hb dX9_init_41 (by decide) ?_
  refine lv_istore_n (lv' := [(1, .int 0), (0, .ref h0)]) hx hb dX9_init_42 rfl hl (by decide) rfl (fun ls hl => ?_)
  refine lv_iload_n hx hb dX9_init_43 rfl (lv_at hl 0 rfl) ?_
  refine lv_iconst (v := 3) hx hb dX9_init_44 (by decide) ?_
  refine lv_icmp_ge (tgt := 67) hx hb dX9_init_45 (by decide) (fun c_6 => absurd c_6 (by decide)) (fun _ => ?_)
  refine lv_aload_n hx hb dX9_init_48 rfl (lv_at hl 1 rfl) ?_
  refine va_get (D := (dC, dI)) (ci := 14) (v := .ref q_2) (C := RX9) (T := TX9) (N := 18) hx hb hts (by decide +kernel) hown hK hP 0 rfl rfl 1 (by decide) (hts (.fieldLink RX9 17 "QueryHall$Select" "items" "[LQueryHall$Item;") (by decide +kernel)) (fun _ h9 => h9) rfl dX9_init_49 ?_
  refine lv_iload_n hx hb dX9_init_52 rfl (lv_at hl 0 rfl) ?_
  refine va_new (ci := 8) (fs := [.long 0, .long 0, .int 0, .int 0, .int 0, .int 0, .int 0, .null]) (C := RX3) (T := TX3) (N := 8) hx hb hts (by decide +kernel) tyX3 tyX3_ok hown (hts (.classLink RX9 15 RX3) (by decide +kernel)) (hts (.instantiable RX3 8) (by decide +kernel)) (hts (.initialized RX3) (by decide +kernel)) hK hP hD hS hA rfl (fun j hj => by rcases (show j = 0 ∨ j = 1 ∨ j = 2 ∨ j = 3 ∨ j = 4 ∨ j = 5 ∨ j = 6 ∨ j = 7 by omega) with rfl | rfl | rfl | rfl | rfl | rfl | rfl | rfl <;> rfl) (Nat.le_of_ble_eq_true rfl) (Nat.le_of_ble_eq_true rfl) dX9_init_53 (fun q_7 H hP hD hS => ?_)
  have hP : va_P (dC, dI) vwCl [(h0, .inr (14, [.ref q_1, .ref q_2, .ref q_3, .ref q_4, .ref q_5, .null, .int 0, .int 0, .int 0, .int 0, .int 0, .int 0, .int 0, .int 0, .int 0, .int 0, .int 0, .int 0])), (q_1, .inl (cI, 6, .inl (fun _ => 0))), (q_2, .inl (cIt, 3, .inr (.inr (.inr (.inr (fun _ => none)))))), (q_3, .inl (cI, 3, .inl (fun _ => 0))), (q_4, .inl (cI, 3, .inl (fun _ => 0))), (q_5, .inl (cZ, 3, .inl (fun _ => 0))), (q_7, .inr (8, [.long 0, .long 0, .int 0, .int 0, .int 0, .int 0, .int 0, .null]))] H := hP
  have hD : va_D A [(h0, .inr (14, [.ref q_1, .ref q_2, .ref q_3, .ref q_4, .ref q_5, .null, .int 0, .int 0, .int 0, .int 0, .int 0, .int 0, .int 0, .int 0, .int 0, .int 0, .int 0, .int 0])), (q_1, .inl (cI, 6, .inl (fun _ => 0))), (q_2, .inl (cIt, 3, .inr (.inr (.inr (.inr (fun _ => none)))))), (q_3, .inl (cI, 3, .inl (fun _ => 0))), (q_4, .inl (cI, 3, .inl (fun _ => 0))), (q_5, .inl (cZ, 3, .inl (fun _ => 0))), (q_7, .inr (8, [.long 0, .long 0, .int 0, .int 0, .int 0, .int 0, .int 0, .null]))] := hD
  refine lv_dup hx hb dX9_init_56 rfl ?_
  have hPc := hP.sub (ws' := [(q_7, .inr (8, [.long 0, .long 0, .int 0, .int 0, .int 0, .int 0, .int 0, .null]))]) [6] rfl
  have hDc := hD.sub (ws' := [(q_7, .inr (8, [.long 0, .long 0, .int 0, .int 0, .int 0, .int 0, .int 0, .null]))]) [6] (by decide) rfl
  have hKc := hK.sub (tys' := []) [] rfl
  have hFc := va_free (wc := [(q_7, .inr (8, [.long 0, .long 0, .int 0, .int 0, .int 0, .int 0, .int 0, .null]))]) hD hS hA [6] rfl
  refine va_callv (va_runIN (As := []) (rest := [.ref q_7, .int 0, .ref q_2]) ⟨hx, hb, hml, hown, hts⟩ (c_X3_init l dC dI H.size q_7) ⟨va_cnB 0 hts ggX9_init_X3_init rfl rfl rfl hE1 (hts (.initialized RX3) (by decide +kernel)) (by decide +kernel) ⟨Nat.le_of_ble_eq_true rfl, Nat.le_of_ble_eq_true rfl⟩, rfl, hts (.instanceMethod yX3_init) (by decide +kernel)⟩ ⟨fun a U g mk q => by obtain ⟨q0, q1, qP, qK, qD⟩ := q; exact ⟨q0, q1, qP, va_K.moved (u := U) (U := U.calling g mk a) (Vm.Alike.refl U.vm) qK, qD⟩, fun U hU hW => ⟨rfl, by rw [hU], by rw [hU]; exact hPc, va_K.moved hW.alike hKc, hDc.weaken (fun _ _ _ _ => trivial)⟩⟩ rfl rfl hl.1 rfl (lv_room (Nat.le_of_ble_eq_true rfl)) dX9_init_57 ⟨Nat.le_of_ble_eq_true rfl, Nat.le_of_ble_eq_true rfl⟩) hS (fun q _ h => hFc q h) hFc (fun u t H1 locs ht hvm hw hB hz1 hk1 hS => ?_)
  obtain ⟨hP1, hK1, hD1⟩ := hB
  rw [ht] at hP1
  obtain ⟨hP, hD⟩ := va_join (wr := [(h0, .inr (14, [.ref q_1, .ref q_2, .ref q_3, .ref q_4, .ref q_5, .null, .int 0, .int 0, .int 0, .int 0, .int 0, .int 0, .int 0, .int 0, .int 0, .int 0, .int 0, .int 0])), (q_1, .inl (cI, 6, .inl (fun _ => 0))), (q_2, .inl (cIt, 3, .inr (.inr (.inr (.inr (fun _ => none)))))), (q_3, .inl (cI, 3, .inl (fun _ => 0))), (q_4, .inl (cI, 3, .inl (fun _ => 0))), (q_5, .inl (cZ, 3, .inl (fun _ => 0)))]) (w1 := [(q_7, .inr (8, [.long 0, .long 0, .int 0, .int 0, .int 0, .int 0, .int 0, .null]))]) hP hD [6] [0, 1, 2, 3, 4, 5] rfl rfl (by decide) (by decide) hk1 hFc hP1 hD1
  generalize H1 = H at hP hS ⊢
  have hP := hP.sub (ws' := [(h0, .inr (14, [.ref q_1, .ref q_2, .ref q_3, .ref q_4, .ref q_5, .null, .int 0, .int 0, .int 0, .int 0, .int 0, .int 0, .int 0, .int 0, .int 0, .int 0, .int 0, .int 0])), (q_1, .inl (cI, 6, .inl (fun _ => 0))), (q_2, .inl (cIt, 3, .inr (.inr (.inr (.inr (fun _ => none)))))), (q_3, .inl (cI, 3, .inl (fun _ => 0))), (q_4, .inl (cI, 3, .inl (fun _ => 0))), (q_5, .inl (cZ, 3, .inl (fun _ => 0))), (q_7, .inr (8, [.long 0, .long 0, .int 0, .int 0, .int 0, .int 0, .int 0, .null]))]) [0, 1, 2, 3, 4, 5, 6] rfl
  have hD := hD.sub (ws' := [(h0, .inr (14, [.ref q_1, .ref q_2, .ref q_3, .ref q_4, .ref q_5, .null, .int 0, .int 0, .int 0, .int 0, .int 0, .int 0, .int 0, .int 0, .int 0, .int 0, .int 0, .int 0])), (q_1, .inl (cI, 6, .inl (fun _ => 0))), (q_2, .inl (cIt, 3, .inr (.inr (.inr (.inr (fun _ => none)))))), (q_3, .inl (cI, 3, .inl (fun _ => 0))), (q_4, .inl (cI, 3, .inl (fun _ => 0))), (q_5, .inl (cZ, 3, .inl (fun _ => 0))), (q_7, .inr (8, [.long 0, .long 0, .int 0, .int 0, .int 0, .int 0, .int 0, .null]))]) [0, 1, 2, 3, 4, 5, 6] (by decide) rfl
  refine va_astq (r := (RX3, TX3, 8)) hx hb hK hP hD hS 2 2 6 8 rfl rfl rfl rfl (show ¬ ((0 : Int32) < 0 ∨ 3 ≤ (0 : Int32).toNatClampNeg) by decide) dX9_init_60 (fun H locs hP hD hS => ?_)
  have hP : va_P (dC, dI) vwCl [(h0, .inr (14, [.ref q_1, .ref q_2, .ref q_3, .ref q_4, .ref q_5, .null, .int 0, .int 0, .int 0, .int 0, .int 0, .int 0, .int 0, .int 0, .int 0, .int 0, .int 0, .int 0])), (q_1, .inl (cI, 6, .inl (fun _ => 0))), (q_2, .inl (cIt, 3, .inr (.inr (.inr (.inr (va_up (fun _ => none) 0 (some q_7))))))), (q_3, .inl (cI, 3, .inl (fun _ => 0))), (q_4, .inl (cI, 3, .inl (fun _ => 0))), (q_5, .inl (cZ, 3, .inl (fun _ => 0))), (q_7, .inr (8, [.long 0, .long 0, .int 0, .int 0, .int 0, .int 0, .int 0, .null]))] H := hP
  have hD : va_D A [(h0, .inr (14, [.ref q_1, .ref q_2, .ref q_3, .ref q_4, .ref q_5, .null, .int 0, .int 0, .int 0, .int 0, .int 0, .int 0, .int 0, .int 0, .int 0, .int 0, .int 0, .int 0])), (q_1, .inl (cI, 6, .inl (fun _ => 0))), (q_2, .inl (cIt, 3, .inr (.inr (.inr (.inr (va_up (fun _ => none) 0 (some q_7))))))), (q_3, .inl (cI, 3, .inl (fun _ => 0))), (q_4, .inl (cI, 3, .inl (fun _ => 0))), (q_5, .inl (cZ, 3, .inl (fun _ => 0))), (q_7, .inr (8, [.long 0, .long 0, .int 0, .int 0, .int 0, .int 0, .int 0, .null]))] := hD
  refine lv_iinc (v := 1) (lv' := [(1, .int 1), (0, .ref h0)]) hx hb dX9_init_61 hl (k := 0) rfl (by decide) (by decide) rfl (fun ls hl => ?_)
  refine lv_goto (tgt := 43) hx hb dX9_init_64 (by decide) ?_
  refine lv_iload_n hx hb dX9_init_43 rfl (lv_at hl 0 rfl) ?_
  refine lv_iconst (v := 3) hx hb dX9_init_44 (by decide) ?_
  refine lv_icmp_ge (tgt := 67) hx hb dX9_init_45 (by decide) (fun c_9 => absurd c_9 (by decide)) (fun _ => ?_)
  refine lv_aload_n hx hb dX9_init_48 rfl (lv_at hl 1 rfl) ?_
  refine va_get (D := (dC, dI)) (ci := 14) (v := .ref q_2) (C := RX9) (T := TX9) (N := 18) hx hb hts (by decide +kernel) hown hK hP 0 rfl rfl 1 (by decide) (hts (.fieldLink RX9 17 "QueryHall$Select" "items" "[LQueryHall$Item;") (by decide +kernel)) (fun _ h9 => h9) rfl dX9_init_49 ?_
  refine lv_iload_n hx hb dX9_init_52 rfl (lv_at hl 0 rfl) ?_
  refine va_new (ci := 8) (fs := [.long 0, .long 0, .int 0, .int 0, .int 0, .int 0, .int 0, .null]) (C := RX3) (T := TX3) (N := 8) hx hb hts (by decide +kernel) tyX3 tyX3_ok hown (hts (.classLink RX9 15 RX3) (by decide +kernel)) (hts (.instantiable RX3 8) (by decide +kernel)) (hts (.initialized RX3) (by decide +kernel)) hK hP hD hS hA rfl (fun j hj => by rcases (show j = 0 ∨ j = 1 ∨ j = 2 ∨ j = 3 ∨ j = 4 ∨ j = 5 ∨ j = 6 ∨ j = 7 by omega) with rfl | rfl | rfl | rfl | rfl | rfl | rfl | rfl <;> rfl) (Nat.le_of_ble_eq_true rfl) (Nat.le_of_ble_eq_true rfl) dX9_init_53 (fun q_10 H hP hD hS => ?_)
  have hP : va_P (dC, dI) vwCl [(h0, .inr (14, [.ref q_1, .ref q_2, .ref q_3, .ref q_4, .ref q_5, .null, .int 0, .int 0, .int 0, .int 0, .int 0, .int 0, .int 0, .int 0, .int 0, .int 0, .int 0, .int 0])), (q_1, .inl (cI, 6, .inl (fun _ => 0))), (q_2, .inl (cIt, 3, .inr (.inr (.inr (.inr (va_up (fun _ => none) 0 (some q_7))))))), (q_3, .inl (cI, 3, .inl (fun _ => 0))), (q_4, .inl (cI, 3, .inl (fun _ => 0))), (q_5, .inl (cZ, 3, .inl (fun _ => 0))), (q_7, .inr (8, [.long 0, .long 0, .int 0, .int 0, .int 0, .int 0, .int 0, .null])), (q_10, .inr (8, [.long 0, .long 0, .int 0, .int 0, .int 0, .int 0, .int 0, .null]))] H := hP
  have hD : va_D A [(h0, .inr (14, [.ref q_1, .ref q_2, .ref q_3, .ref q_4, .ref q_5, .null, .int 0, .int 0, .int 0, .int 0, .int 0, .int 0, .int 0, .int 0, .int 0, .int 0, .int 0, .int 0])), (q_1, .inl (cI, 6, .inl (fun _ => 0))), (q_2, .inl (cIt, 3, .inr (.inr (.inr (.inr (va_up (fun _ => none) 0 (some q_7))))))), (q_3, .inl (cI, 3, .inl (fun _ => 0))), (q_4, .inl (cI, 3, .inl (fun _ => 0))), (q_5, .inl (cZ, 3, .inl (fun _ => 0))), (q_7, .inr (8, [.long 0, .long 0, .int 0, .int 0, .int 0, .int 0, .int 0, .null])), (q_10, .inr (8, [.long 0, .long 0, .int 0, .int 0, .int 0, .int 0, .int 0, .null]))] := hD
  refine lv_dup hx hb dX9_init_56 rfl ?_
  have hPc := hP.sub (ws' := [(q_10, .inr (8, [.long 0, .long 0, .int 0, .int 0, .int 0, .int 0, .int 0, .null]))]) [7] rfl
  have hDc := hD.sub (ws' := [(q_10, .inr (8, [.long 0, .long 0, .int 0, .int 0, .int 0, .int 0, .int 0, .null]))]) [7] (by decide) rfl
  have hKc := hK.sub (tys' := []) [] rfl
  have hFc := va_free (wc := [(q_10, .inr (8, [.long 0, .long 0, .int 0, .int 0, .int 0, .int 0, .int 0, .null]))]) hD hS hA [7] rfl
  refine va_callv (va_runIN (As := []) (rest := [.ref q_10, .int 1, .ref q_2]) ⟨hx, hb, hml, hown, hts⟩ (c_X3_init l dC dI H.size q_10) ⟨va_cnB 0 hts ggX9_init_X3_init rfl rfl rfl hE1 (hts (.initialized RX3) (by decide +kernel)) (by decide +kernel) ⟨Nat.le_of_ble_eq_true rfl, Nat.le_of_ble_eq_true rfl⟩, rfl, hts (.instanceMethod yX3_init) (by decide +kernel)⟩ ⟨fun a U g mk q => by obtain ⟨q0, q1, qP, qK, qD⟩ := q; exact ⟨q0, q1, qP, va_K.moved (u := U) (U := U.calling g mk a) (Vm.Alike.refl U.vm) qK, qD⟩, fun U hU hW => ⟨rfl, by rw [hU], by rw [hU]; exact hPc, va_K.moved hW.alike hKc, hDc.weaken (fun _ _ _ _ => trivial)⟩⟩ rfl rfl hl.1 rfl (lv_room (Nat.le_of_ble_eq_true rfl)) dX9_init_57 ⟨Nat.le_of_ble_eq_true rfl, Nat.le_of_ble_eq_true rfl⟩) hS (fun q _ h => hFc q h) hFc (fun u t H1 locs ht hvm hw hB hz1 hk1 hS => ?_)
  obtain ⟨hP1, hK1, hD1⟩ := hB
  rw [ht] at hP1
  obtain ⟨hP, hD⟩ := va_join (wr := [(h0, .inr (14, [.ref q_1, .ref q_2, .ref q_3, .ref q_4, .ref q_5, .null, .int 0, .int 0, .int 0, .int 0, .int 0, .int 0, .int 0, .int 0, .int 0, .int 0, .int 0, .int 0])), (q_1, .inl (cI, 6, .inl (fun _ => 0))), (q_2, .inl (cIt, 3, .inr (.inr (.inr (.inr (va_up (fun _ => none) 0 (some q_7))))))), (q_3, .inl (cI, 3, .inl (fun _ => 0))), (q_4, .inl (cI, 3, .inl (fun _ => 0))), (q_5, .inl (cZ, 3, .inl (fun _ => 0))), (q_7, .inr (8, [.long 0, .long 0, .int 0, .int 0, .int 0, .int 0, .int 0, .null]))]) (w1 := [(q_10, .inr (8, [.long 0, .long 0, .int 0, .int 0, .int 0, .int 0, .int 0, .null]))]) hP hD [7] [0, 1, 2, 3, 4, 5, 6] rfl rfl (by decide) (by decide) hk1 hFc hP1 hD1
  generalize H1 = H at hP hS ⊢
  have hP := hP.sub (ws' := [(h0, .inr (14, [.ref q_1, .ref q_2, .ref q_3, .ref q_4, .ref q_5, .null, .int 0, .int 0, .int 0, .int 0, .int 0, .int 0, .int 0, .int 0, .int 0, .int 0, .int 0, .int 0])), (q_1, .inl (cI, 6, .inl (fun _ => 0))), (q_2, .inl (cIt, 3, .inr (.inr (.inr (.inr (va_up (fun _ => none) 0 (some q_7))))))), (q_3, .inl (cI, 3, .inl (fun _ => 0))), (q_4, .inl (cI, 3, .inl (fun _ => 0))), (q_5, .inl (cZ, 3, .inl (fun _ => 0))), (q_7, .inr (8, [.long 0, .long 0, .int 0, .int 0, .int 0, .int 0, .int 0, .null])), (q_10, .inr (8, [.long 0, .long 0, .int 0, .int 0, .int 0, .int 0, .int 0, .null]))]) [0, 1, 2, 3, 4, 5, 6, 7] rfl
  have hD := hD.sub (ws' := [(h0, .inr (14, [.ref q_1, .ref q_2, .ref q_3, .ref q_4, .ref q_5, .null, .int 0, .int 0, .int 0, .int 0, .int 0, .int 0, .int 0, .int 0, .int 0, .int 0, .int 0, .int 0])), (q_1, .inl (cI, 6, .inl (fun _ => 0))), (q_2, .inl (cIt, 3, .inr (.inr (.inr (.inr (va_up (fun _ => none) 0 (some q_7))))))), (q_3, .inl (cI, 3, .inl (fun _ => 0))), (q_4, .inl (cI, 3, .inl (fun _ => 0))), (q_5, .inl (cZ, 3, .inl (fun _ => 0))), (q_7, .inr (8, [.long 0, .long 0, .int 0, .int 0, .int 0, .int 0, .int 0, .null])), (q_10, .inr (8, [.long 0, .long 0, .int 0, .int 0, .int 0, .int 0, .int 0, .null]))]) [0, 1, 2, 3, 4, 5, 6, 7] (by decide) rfl
  refine va_astq (r := (RX3, TX3, 8)) hx hb hK hP hD hS 2 2 7 8 rfl rfl rfl rfl (show ¬ ((1 : Int32) < 0 ∨ 3 ≤ (1 : Int32).toNatClampNeg) by decide) dX9_init_60 (fun H locs hP hD hS => ?_)
  have hP : va_P (dC, dI) vwCl [(h0, .inr (14, [.ref q_1, .ref q_2, .ref q_3, .ref q_4, .ref q_5, .null, .int 0, .int 0, .int 0, .int 0, .int 0, .int 0, .int 0, .int 0, .int 0, .int 0, .int 0, .int 0])), (q_1, .inl (cI, 6, .inl (fun _ => 0))), (q_2, .inl (cIt, 3, .inr (.inr (.inr (.inr (va_up (va_up (fun _ => none) 0 (some q_7)) 1 (some q_10))))))), (q_3, .inl (cI, 3, .inl (fun _ => 0))), (q_4, .inl (cI, 3, .inl (fun _ => 0))), (q_5, .inl (cZ, 3, .inl (fun _ => 0))), (q_7, .inr (8, [.long 0, .long 0, .int 0, .int 0, .int 0, .int 0, .int 0, .null])), (q_10, .inr (8, [.long 0, .long 0, .int 0, .int 0, .int 0, .int 0, .int 0, .null]))] H := hP
  have hD : va_D A [(h0, .inr (14, [.ref q_1, .ref q_2, .ref q_3, .ref q_4, .ref q_5, .null, .int 0, .int 0, .int 0, .int 0, .int 0, .int 0, .int 0, .int 0, .int 0, .int 0, .int 0, .int 0])), (q_1, .inl (cI, 6, .inl (fun _ => 0))), (q_2, .inl (cIt, 3, .inr (.inr (.inr (.inr (va_up (va_up (fun _ => none) 0 (some q_7)) 1 (some q_10))))))), (q_3, .inl (cI, 3, .inl (fun _ => 0))), (q_4, .inl (cI, 3, .inl (fun _ => 0))), (q_5, .inl (cZ, 3, .inl (fun _ => 0))), (q_7, .inr (8, [.long 0, .long 0, .int 0, .int 0, .int 0, .int 0, .int 0, .null])), (q_10, .inr (8, [.long 0, .long 0, .int 0, .int 0, .int 0, .int 0, .int 0, .null]))] := hD
  refine lv_iinc (v := 2) (lv' := [(1, .int 2), (0, .ref h0)]) hx hb dX9_init_61 hl (k := 0) rfl (by decide) (by decide) rfl (fun ls hl => ?_)
  refine lv_goto (tgt := 43) hx hb dX9_init_64 (by decide) ?_
  refine lv_iload_n hx hb dX9_init_43 rfl (lv_at hl 0 rfl) ?_
  refine lv_iconst (v := 3) hx hb dX9_init_44 (by decide) ?_
  refine lv_icmp_ge (tgt := 67) hx hb dX9_init_45 (by decide) (fun c_12 => absurd c_12 (by decide)) (fun _ => ?_)
  refine lv_aload_n hx hb dX9_init_48 rfl (lv_at hl 1 rfl) ?_
  refine va_get (D := (dC, dI)) (ci := 14) (v := .ref q_2) (C := RX9) (T := TX9) (N := 18) hx hb hts (by decide +kernel) hown hK hP 0 rfl rfl 1 (by decide) (hts (.fieldLink RX9 17 "QueryHall$Select" "items" "[LQueryHall$Item;") (by decide +kernel)) (fun _ h9 => h9) rfl dX9_init_49 ?_
  refine lv_iload_n hx hb dX9_init_52 rfl (lv_at hl 0 rfl) ?_
  refine va_new (ci := 8) (fs := [.long 0, .long 0, .int 0, .int 0, .int 0, .int 0, .int 0, .null]) (C := RX3) (T := TX3) (N := 8) hx hb hts (by decide +kernel) tyX3 tyX3_ok hown (hts (.classLink RX9 15 RX3) (by decide +kernel)) (hts (.instantiable RX3 8) (by decide +kernel)) (hts (.initialized RX3) (by decide +kernel)) hK hP hD hS hA rfl (fun j hj => by rcases (show j = 0 ∨ j = 1 ∨ j = 2 ∨ j = 3 ∨ j = 4 ∨ j = 5 ∨ j = 6 ∨ j = 7 by omega) with rfl | rfl | rfl | rfl | rfl | rfl | rfl | rfl <;> rfl) (Nat.le_of_ble_eq_true rfl) (Nat.le_of_ble_eq_true rfl) dX9_init_53 (fun q_13 H hP hD hS => ?_)
  have hP : va_P (dC, dI) vwCl [(h0, .inr (14, [.ref q_1, .ref q_2, .ref q_3, .ref q_4, .ref q_5, .null, .int 0, .int 0, .int 0, .int 0, .int 0, .int 0, .int 0, .int 0, .int 0, .int 0, .int 0, .int 0])), (q_1, .inl (cI, 6, .inl (fun _ => 0))), (q_2, .inl (cIt, 3, .inr (.inr (.inr (.inr (va_up (va_up (fun _ => none) 0 (some q_7)) 1 (some q_10))))))), (q_3, .inl (cI, 3, .inl (fun _ => 0))), (q_4, .inl (cI, 3, .inl (fun _ => 0))), (q_5, .inl (cZ, 3, .inl (fun _ => 0))), (q_7, .inr (8, [.long 0, .long 0, .int 0, .int 0, .int 0, .int 0, .int 0, .null])), (q_10, .inr (8, [.long 0, .long 0, .int 0, .int 0, .int 0, .int 0, .int 0, .null])), (q_13, .inr (8, [.long 0, .long 0, .int 0, .int 0, .int 0, .int 0, .int 0, .null]))] H := hP
  have hD : va_D A [(h0, .inr (14, [.ref q_1, .ref q_2, .ref q_3, .ref q_4, .ref q_5, .null, .int 0, .int 0, .int 0, .int 0, .int 0, .int 0, .int 0, .int 0, .int 0, .int 0, .int 0, .int 0])), (q_1, .inl (cI, 6, .inl (fun _ => 0))), (q_2, .inl (cIt, 3, .inr (.inr (.inr (.inr (va_up (va_up (fun _ => none) 0 (some q_7)) 1 (some q_10))))))), (q_3, .inl (cI, 3, .inl (fun _ => 0))), (q_4, .inl (cI, 3, .inl (fun _ => 0))), (q_5, .inl (cZ, 3, .inl (fun _ => 0))), (q_7, .inr (8, [.long 0, .long 0, .int 0, .int 0, .int 0, .int 0, .int 0, .null])), (q_10, .inr (8, [.long 0, .long 0, .int 0, .int 0, .int 0, .int 0, .int 0, .null])), (q_13, .inr (8, [.long 0, .long 0, .int 0, .int 0, .int 0, .int 0, .int 0, .null]))] := hD
  refine lv_dup hx hb dX9_init_56 rfl ?_
  have hPc := hP.sub (ws' := [(q_13, .inr (8, [.long 0, .long 0, .int 0, .int 0, .int 0, .int 0, .int 0, .null]))]) [8] rfl
  have hDc := hD.sub (ws' := [(q_13, .inr (8, [.long 0, .long 0, .int 0, .int 0, .int 0, .int 0, .int 0, .null]))]) [8] (by decide) rfl
  have hKc := hK.sub (tys' := []) [] rfl
  have hFc := va_free (wc := [(q_13, .inr (8, [.long 0, .long 0, .int 0, .int 0, .int 0, .int 0, .int 0, .null]))]) hD hS hA [8] rfl
  refine va_callv (va_runIN (As := []) (rest := [.ref q_13, .int 2, .ref q_2]) ⟨hx, hb, hml, hown, hts⟩ (c_X3_init l dC dI H.size q_13) ⟨va_cnB 0 hts ggX9_init_X3_init rfl rfl rfl hE1 (hts (.initialized RX3) (by decide +kernel)) (by decide +kernel) ⟨Nat.le_of_ble_eq_true rfl, Nat.le_of_ble_eq_true rfl⟩, rfl, hts (.instanceMethod yX3_init) (by decide +kernel)⟩ ⟨fun a U g mk q => by obtain ⟨q0, q1, qP, qK, qD⟩ := q; exact ⟨q0, q1, qP, va_K.moved (u := U) (U := U.calling g mk a) (Vm.Alike.refl U.vm) qK, qD⟩, fun U hU hW => ⟨rfl, by rw [hU], by rw [hU]; exact hPc, va_K.moved hW.alike hKc, hDc.weaken (fun _ _ _ _ => trivial)⟩⟩ rfl rfl hl.1 rfl (lv_room (Nat.le_of_ble_eq_true rfl)) dX9_init_57 ⟨Nat.le_of_ble_eq_true rfl, Nat.le_of_ble_eq_true rfl⟩) hS (fun q _ h => hFc q h) hFc (fun u t H1 locs ht hvm hw hB hz1 hk1 hS => ?_)
  obtain ⟨hP1, hK1, hD1⟩ := hB
  rw [ht] at hP1
  obtain ⟨hP, hD⟩ := va_join (wr := [(h0, .inr (14, [.ref q_1, .ref q_2, .ref q_3, .ref q_4, .ref q_5, .null, .int 0, .int 0, .int 0, .int 0, .int 0, .int 0, .int 0, .int 0, .int 0, .int 0, .int 0, .int 0])), (q_1, .inl (cI, 6, .inl (fun _ => 0))), (q_2, .inl (cIt, 3, .inr (.inr (.inr (.inr (va_up (va_up (fun _ => none) 0 (some q_7)) 1 (some q_10))))))), (q_3, .inl (cI, 3, .inl (fun _ => 0))), (q_4, .inl (cI, 3, .inl (fun _ => 0))), (q_5, .inl (cZ, 3, .inl (fun _ => 0))), (q_7, .inr (8, [.long 0, .long 0, .int 0, .int 0, .int 0, .int 0, .int 0, .null])), (q_10, .inr (8, [.long 0, .long 0, .int 0, .int 0, .int 0, .int 0, .int 0, .null]))]) (w1 := [(q_13, .inr (8, [.long 0, .long 0, .int 0, .int 0, .int 0, .int 0, .int 0, .null]))]) hP hD [8] [0, 1, 2, 3, 4, 5, 6, 7] rfl rfl (by decide) (by decide) hk1 hFc hP1 hD1
  generalize H1 = H at hP hS ⊢
  have hP := hP.sub (ws' := [(h0, .inr (14, [.ref q_1, .ref q_2, .ref q_3, .ref q_4, .ref q_5, .null, .int 0, .int 0, .int 0, .int 0, .int 0, .int 0, .int 0, .int 0, .int 0, .int 0, .int 0, .int 0])), (q_1, .inl (cI, 6, .inl (fun _ => 0))), (q_2, .inl (cIt, 3, .inr (.inr (.inr (.inr (va_up (va_up (fun _ => none) 0 (some q_7)) 1 (some q_10))))))), (q_3, .inl (cI, 3, .inl (fun _ => 0))), (q_4, .inl (cI, 3, .inl (fun _ => 0))), (q_5, .inl (cZ, 3, .inl (fun _ => 0))), (q_7, .inr (8, [.long 0, .long 0, .int 0, .int 0, .int 0, .int 0, .int 0, .null])), (q_10, .inr (8, [.long 0, .long 0, .int 0, .int 0, .int 0, .int 0, .int 0, .null])), (q_13, .inr (8, [.long 0, .long 0, .int 0, .int 0, .int 0, .int 0, .int 0, .null]))]) [0, 1, 2, 3, 4, 5, 6, 7, 8] rfl
  have hD := hD.sub (ws' := [(h0, .inr (14, [.ref q_1, .ref q_2, .ref q_3, .ref q_4, .ref q_5, .null, .int 0, .int 0, .int 0, .int 0, .int 0, .int 0, .int 0, .int 0, .int 0, .int 0, .int 0, .int 0])), (q_1, .inl (cI, 6, .inl (fun _ => 0))), (q_2, .inl (cIt, 3, .inr (.inr (.inr (.inr (va_up (va_up (fun _ => none) 0 (some q_7)) 1 (some q_10))))))), (q_3, .inl (cI, 3, .inl (fun _ => 0))), (q_4, .inl (cI, 3, .inl (fun _ => 0))), (q_5, .inl (cZ, 3, .inl (fun _ => 0))), (q_7, .inr (8, [.long 0, .long 0, .int 0, .int 0, .int 0, .int 0, .int 0, .null])), (q_10, .inr (8, [.long 0, .long 0, .int 0, .int 0, .int 0, .int 0, .int 0, .null])), (q_13, .inr (8, [.long 0, .long 0, .int 0, .int 0, .int 0, .int 0, .int 0, .null]))]) [0, 1, 2, 3, 4, 5, 6, 7, 8] (by decide) rfl
  refine va_astq (r := (RX3, TX3, 8)) hx hb hK hP hD hS 2 2 8 8 rfl rfl rfl rfl (show ¬ ((2 : Int32) < 0 ∨ 3 ≤ (2 : Int32).toNatClampNeg) by decide) dX9_init_60 (fun H locs hP hD hS => ?_)
  have hP : va_P (dC, dI) vwCl [(h0, .inr (14, [.ref q_1, .ref q_2, .ref q_3, .ref q_4, .ref q_5, .null, .int 0, .int 0, .int 0, .int 0, .int 0, .int 0, .int 0, .int 0, .int 0, .int 0, .int 0, .int 0])), (q_1, .inl (cI, 6, .inl (fun _ => 0))), (q_2, .inl (cIt, 3, .inr (.inr (.inr (.inr (va_up (va_up (va_up (fun _ => none) 0 (some q_7)) 1 (some q_10)) 2 (some q_13))))))), (q_3, .inl (cI, 3, .inl (fun _ => 0))), (q_4, .inl (cI, 3, .inl (fun _ => 0))), (q_5, .inl (cZ, 3, .inl (fun _ => 0))), (q_7, .inr (8, [.long 0, .long 0, .int 0, .int 0, .int 0, .int 0, .int 0, .null])), (q_10, .inr (8, [.long 0, .long 0, .int 0, .int 0, .int 0, .int 0, .int 0, .null])), (q_13, .inr (8, [.long 0, .long 0, .int 0, .int 0, .int 0, .int 0, .int 0, .null]))] H := hP
  have hD : va_D A [(h0, .inr (14, [.ref q_1, .ref q_2, .ref q_3, .ref q_4, .ref q_5, .null, .int 0, .int 0, .int 0, .int 0, .int 0, .int 0, .int 0, .int 0, .int 0, .int 0, .int 0, .int 0])), (q_1, .inl (cI, 6, .inl (fun _ => 0))), (q_2, .inl (cIt, 3, .inr (.inr (.inr (.inr (va_up (va_up (va_up (fun _ => none) 0 (some q_7)) 1 (some q_10)) 2 (some q_13))))))), (q_3, .inl (cI, 3, .inl (fun _ => 0))), (q_4, .inl (cI, 3, .inl (fun _ => 0))), (q_5, .inl (cZ, 3, .inl (fun _ => 0))), (q_7, .inr (8, [.long 0, .long 0, .int 0, .int 0, .int 0, .int 0, .int 0, .null])), (q_10, .inr (8, [.long 0, .long 0, .int 0, .int 0, .int 0, .int 0, .int 0, .null])), (q_13, .inr (8, [.long 0, .long 0, .int 0, .int 0, .int 0, .int 0, .int 0, .null]))] := hD
  refine lv_iinc (v := 3) (lv' := [(1, .int 3), (0, .ref h0)]) hx hb dX9_init_61 hl (k := 0) rfl (by decide) (by decide) rfl (fun ls hl => ?_)
  refine lv_goto (tgt := 43) hx hb dX9_init_64 (by decide) ?_
  refine lv_iload_n hx hb dX9_init_43 rfl (lv_at hl 0 rfl) ?_
  refine lv_iconst (v := 3) hx hb dX9_init_44 (by decide) ?_
  refine lv_icmp_ge (tgt := 67) hx hb dX9_init_45 (by decide) (fun _ => ?_) (fun c_15 => absurd (by decide) c_15)
  have hP9 := hP.sub (ws' := [(h0, .inr (14, [.ref q_1, .ref q_2, .ref q_3, .ref q_4, .ref q_5, .null, .int 0, .int 0, .int 0, .int 0, .int 0, .int 0, .int 0, .int 0, .int 0, .int 0, .int 0, .int 0])), (q_1, .inl (cI, 6, .inl (fun _ => 0))), (q_2, .inl (cIt, 3, .inr (.inr (.inr (.inr (va_up (va_up (va_up (fun _ => none) 0 (some q_7)) 1 (some q_10)) 2 (some q_13))))))), (q_3, .inl (cI, 3, .inl (fun _ => 0))), (q_4, .inl (cI, 3, .inl (fun _ => 0))), (q_5, .inl (cZ, 3, .inl (fun _ => 0))), (q_7, .inr (8, [.long 0, .long 0, .int 0, .int 0, .int 0, .int 0, .int 0, .null])), (q_10, .inr (8, [.long 0, .long 0, .int 0, .int 0, .int 0, .int 0, .int 0, .null])), (q_13, .inr (8, [.long 0, .long 0, .int 0, .int 0, .int 0, .int 0, .int 0, .null]))]) [0, 1, 2, 3, 4, 5, 6, 7, 8] rfl
  have hD9 := hD.sub (ws' := [(h0, .inr (14, [.ref q_1, .ref q_2, .ref q_3, .ref q_4, .ref q_5, .null, .int 0, .int 0, .int 0, .int 0, .int 0, .int 0, .int 0, .int 0, .int 0, .int 0, .int 0, .int 0])), (q_1, .inl (cI, 6, .inl (fun _ => 0))), (q_2, .inl (cIt, 3, .inr (.inr (.inr (.inr (va_up (va_up (va_up (fun _ => none) 0 (some q_7)) 1 (some q_10)) 2 (some q_13))))))), (q_3, .inl (cI, 3, .inl (fun _ => 0))), (q_4, .inl (cI, 3, .inl (fun _ => 0))), (q_5, .inl (cZ, 3, .inl (fun _ => 0))), (q_7, .inr (8, [.long 0, .long 0, .int 0, .int 0, .int 0, .int 0, .int 0, .null])), (q_10, .inr (8, [.long 0, .long 0, .int 0, .int 0, .int 0, .int 0, .int 0, .null])), (q_13, .inr (8, [.long 0, .long 0, .int 0, .int 0, .int 0, .int 0, .int 0, .null]))]) [0, 1, 2, 3, 4, 5, 6, 7, 8] (by decide) rfl
  have hK9 := hK.sub (tys' := [(cI, .int), (cZ, .boolean), (cIt, .object RX3)]) [0, 1, 2] rfl
  exact W.vret hx hb hr (fun t ht hW => ⟨⟨(), rfl, trivial, q_1, q_2, q_3, q_4, q_5, q_7, q_10, q_13, by rw [ht]; exact hP9, va_K.moved hW.alike hK9, hD9⟩, hS.F ht⟩) hS.2.2 dX9_init_67
