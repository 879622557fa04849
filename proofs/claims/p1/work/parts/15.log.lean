abbrev cX5_force : ByteArray := prog_7_method_3_code
def yX5_force : MethodName := ⟨RX5, "force", "()I"⟩
abbrev cX12_lazy : ByteArray := prog_1_method_14_code
def yX12_lazy : MethodName := ⟨RX12, "lazy", "(Z)Z"⟩
abbrev cX12_sync : ByteArray := prog_1_method_15_code
def yX12_sync : MethodName := ⟨RX12, "sync", "()I"⟩
abbrev cX12_needUp : ByteArray := prog_1_method_25_code
def yX12_needUp : MethodName := ⟨RX12, "needUp", "()V"⟩
abbrev cX12_endCall : ByteArray := prog_1_method_27_code
def yX12_endCall : MethodName := ⟨RX12, "endCall", "()V"⟩
def wsX5_force : List Cond := .code yX5_force cX5_force 2 (some .int) :: ([.fieldLink RX5 50 "QueryHall$Log" "last" "I", .fieldLink RX5 53 "QueryHall$Log" "durable" "I"] ++ wsX50)
def wsX12_needUp : List Cond := .code yX12_needUp cX12_needUp 1 none :: ([.classLink RX12 107 "java/lang/IllegalStateException", .initialized "java/lang/IllegalStateException", .fieldLink RX12 56 "QueryHall" "up" "Z"] ++ wsX120 ++ (vx_atS RX12 111 "java/lang/IllegalStateException" ["java/lang/RuntimeException", "java/lang/Exception"]).filter goodWord)
def wsX12_endCall : List Cond := .code yX12_endCall cX12_endCall 1 none :: ([.fieldLink RX12 234 "QueryHall" "isLazy" "Z", .fieldLink RX12 79 "QueryHall" "journal" "LQueryHall$Log;", .methodLink RX12 237 yX5_force, .instanceMethod yX5_force, .selects RX5 yX5_force yX5_force, .initialized RX5, .code yX5_force cX5_force 2 (some .int), .fieldLink RX5 50 "QueryHall$Log" "last" "I", .fieldLink RX5 53 "QueryHall$Log" "durable" "I"] ++ wsX120 ++ wsX50)
def wsX12_lazy : List Cond := .code yX12_lazy cX12_lazy 3 (some .boolean) :: ([.fieldLink RX12 234 "QueryHall" "isLazy" "Z", .methodLink RX12 154 yX12_endCall, .instanceMethod yX12_endCall, .selects RX12 yX12_endCall yX12_endCall, .initialized RX12, .code yX12_endCall cX12_endCall 1 none, .fieldLink RX12 79 "QueryHall" "journal" "LQueryHall$Log;", .methodLink RX12 237 yX5_force, .instanceMethod yX5_force, .selects RX5 yX5_force yX5_force, .initialized RX5, .code yX5_force cX5_force 2 (some .int), .fieldLink RX5 50 "QueryHall$Log" "last" "I", .fieldLink RX5 53 "QueryHall$Log" "durable" "I"] ++ wsX120 ++ wsX50)
def wsX12_sync : List Cond := .code yX12_sync cX12_sync 1 (some .int) :: ([.fieldLink RX12 79 "QueryHall" "journal" "LQueryHall$Log;", .methodLink RX12 101 yX12_needUp, .instanceMethod yX12_needUp, .selects RX12 yX12_needUp yX12_needUp, .initialized RX12, .code yX12_needUp cX12_needUp 1 none, .classLink RX12 107 "java/lang/IllegalStateException", .initialized "java/lang/IllegalStateException", .fieldLink RX12 56 "QueryHall" "up" "Z", .methodLink RX12 237 yX5_force, .instanceMethod yX5_force, .selects RX5 yX5_force yX5_force, .initialized RX5, .code yX5_force cX5_force 2 (some .int), .fieldLink RX5 50 "QueryHall$Log" "last" "I", .fieldLink RX5 53 "QueryHall$Log" "durable" "I"] ++ wsX120 ++ wsX50 ++ (vx_atS RX12 111 "java/lang/IllegalStateException" ["java/lang/RuntimeException", "java/lang/Exception"]).filter goodWord)
theorem dX5_force_0 : decode cX5_force 0 = .ok (.aload_n 0, 1) := by decide +kernel
theorem dX5_force_1 : decode cX5_force 1 = .ok (.getfield 50, 3) := by decide +kernel
theorem dX5_force_4 : decode cX5_force 4 = .ok (.aload_n 0, 1) := by decide +kernel
theorem dX5_force_5 : decode cX5_force 5 = .ok (.getfield 53, 3) := by decide +kernel
theorem dX5_force_8 : decode cX5_force 8 = .ok (.isub, 1) := by decide +kernel
theorem dX5_force_9 : decode cX5_force 9 = .ok (.istore_n 1, 1) := by decide +kernel
theorem dX5_force_10 : decode cX5_force 10 = .ok (.aload_n 0, 1) := by decide +kernel
theorem dX5_force_11 : decode cX5_force 11 = .ok (.aload_n 0, 1) := by decide +kernel
theorem dX5_force_12 : decode cX5_force 12 = .ok (.getfield 50, 3) := by decide +kernel
theorem dX5_force_15 : decode cX5_force 15 = .ok (.putfield 53, 3) := by decide +kernel
theorem dX5_force_18 : decode cX5_force 18 = .ok (.iload_n 1, 1) := by decide +kernel
theorem dX5_force_19 : decode cX5_force 19 = .ok (.ireturn, 1) := by decide +kernel
set_option maxRecDepth 20000 in
theorem ggX12_lazy_X12_endCall : GoodIn wsX12_lazy wsX12_endCall := goodIn_r _ [6, 1, 7, 8, 9, 10, 11, 12, 13, 14, 15, 16, 17, 18, 19, 20, 21, 22, 23, 24, 25, 26, 27, 28, 29, 30, 31, 32, 33, 34, 35, 36, 37, 38, 39, 40, 41, 42, 43, 44, 45, 46] (by decide +kernel) (by decide +kernel)
set_option maxRecDepth 20000 in
theorem gX12_lazy_X12_endCall : GoodIn wsX12_lazy (wsV RX12 154 RX12 yX12_endCall wsX12_endCall) := goodIn_app (goodIn_of _ (by decide +kernel)) ggX12_lazy_X12_endCall
theorem dX12_lazy_0 : decode cX12_lazy 0 = .ok (.aload_n 0, 1) := by decide +kernel
theorem dX12_lazy_1 : decode cX12_lazy 1 = .ok (.getfield 234, 3) := by decide +kernel
theorem dX12_lazy_4 : decode cX12_lazy 4 = .ok (.istore_n 2, 1) := by decide +kernel
theorem dX12_lazy_5 : decode cX12_lazy 5 = .ok (.aload_n 0, 1) := by decide +kernel
theorem dX12_lazy_6 : decode cX12_lazy 6 = .ok (.iload_n 1, 1) := by decide +kernel
theorem dX12_lazy_7 : decode cX12_lazy 7 = .ok (.putfield 234, 3) := by decide +kernel
theorem dX12_lazy_10 : decode cX12_lazy 10 = .ok (.aload_n 0, 1) := by decide +kernel
theorem dX12_lazy_11 : decode cX12_lazy 11 = .ok (.invokevirtual 154, 3) := by decide +kernel
theorem dX12_lazy_14 : decode cX12_lazy 14 = .ok (.iload_n 2, 1) := by decide +kernel
theorem dX12_lazy_15 : decode cX12_lazy 15 = .ok (.ireturn, 1) := by decide +kernel
set_option maxRecDepth 20000 in
theorem ggX12_sync_X12_needUp : GoodIn wsX12_sync wsX12_needUp := goodIn_ca (goodIn_r _ [6, 7, 8, 9, 17, 18, 19, 20, 21, 22, 23, 24, 25, 26, 27, 28, 29, 30, 31, 32] (by decide +kernel) (by decide +kernel)) (goodIn_sub (fun _ h => List.mem_cons_of_mem _ (List.mem_append_right _ h)) (by decide +kernel))
set_option maxRecDepth 20000 in
theorem gX12_sync_X12_needUp : GoodIn wsX12_sync (wsV RX12 101 RX12 yX12_needUp wsX12_needUp) := goodIn_app (goodIn_of _ (by decide +kernel)) ggX12_sync_X12_needUp
set_option maxRecDepth 20000 in
theorem ggX12_sync_X5_force : GoodIn wsX12_sync wsX5_force := goodIn_r _ [14, 15, 16, 33, 34, 35, 36, 37, 38, 39, 40, 41, 42, 43, 44, 45, 46, 47, 48] (by decide +kernel) (by decide +kernel)
set_option maxRecDepth 20000 in
theorem gX12_sync_X5_force : GoodIn wsX12_sync (wsV RX12 237 RX5 yX5_force wsX5_force) := goodIn_app (goodIn_of _ (by decide +kernel)) ggX12_sync_X5_force
theorem dX12_sync_0 : decode cX12_sync 0 = .ok (.aload_n 0, 1) := by decide +kernel
theorem dX12_sync_1 : decode cX12_sync 1 = .ok (.invokevirtual 101, 3) := by decide +kernel
theorem dX12_sync_4 : decode cX12_sync 4 = .ok (.aload_n 0, 1) := by decide +kernel
theorem dX12_sync_5 : decode cX12_sync 5 = .ok (.getfield 79, 3) := by decide +kernel
theorem dX12_sync_8 : decode cX12_sync 8 = .ok (.invokevirtual 237, 3) := by decide +kernel
theorem dX12_sync_11 : decode cX12_sync 11 = .ok (.ireturn, 1) := by decide +kernel
theorem dX12_needUp_0 : decode cX12_needUp 0 = .ok (.aload_n 0, 1) := by decide +kernel
theorem dX12_needUp_1 : decode cX12_needUp 1 = .ok (.getfield 56, 3) := by decide +kernel
theorem dX12_needUp_4 : decode cX12_needUp 4 = .ok (.ifCond .ne 14, 3) := by decide +kernel
theorem dX12_needUp_7 : decode cX12_needUp 7 = .ok (.new 107, 3) := by decide +kernel
theorem dX12_needUp_10 : decode cX12_needUp 10 = .ok (.dup, 1) := by decide +kernel
theorem dX12_needUp_11 : decode cX12_needUp 11 = .ok (.ldc_w 322, 3) := by decide +kernel
theorem dX12_needUp_14 : decode cX12_needUp 14 = .ok (.invokespecial 111, 3) := by decide +kernel
theorem dX12_needUp_17 : decode cX12_needUp 17 = .ok (.athrow, 1) := by decide +kernel
theorem dX12_needUp_18 : decode cX12_needUp 18 = .ok (.return_, 1) := by decide +kernel
set_option maxRecDepth 20000 in
theorem ggX12_endCall_X5_force : GoodIn wsX12_endCall wsX5_force := goodIn_r _ [7, 8, 9, 26, 27, 28, 29, 30, 31, 32, 33, 34, 35, 36, 37, 38, 39, 40, 41] (by decide +kernel) (by decide +kernel)
set_option maxRecDepth 20000 in
theorem gX12_endCall_X5_force : GoodIn wsX12_endCall (wsV RX12 237 RX5 yX5_force wsX5_force) := goodIn_app (goodIn_of _ (by decide +kernel)) ggX12_endCall_X5_force
theorem dX12_endCall_0 : decode cX12_endCall 0 = .ok (.aload_n 0, 1) := by decide +kernel
theorem dX12_endCall_1 : decode cX12_endCall 1 = .ok (.getfield 234, 3) := by decide +kernel
theorem dX12_endCall_4 : decode cX12_endCall 4 = .ok (.ifCond .ne 11, 3) := by decide +kernel
theorem dX12_endCall_7 : decode cX12_endCall 7 = .ok (.aload_n 0, 1) := by decide +kernel
theorem dX12_endCall_8 : decode cX12_endCall 8 = .ok (.getfield 79, 3) := by decide +kernel
theorem dX12_endCall_11 : decode cX12_endCall 11 = .ok (.invokevirtual 237, 3) := by decide +kernel
theorem dX12_endCall_14 : decode cX12_endCall 14 = .ok (.pop, 1) := by decide +kernel
theorem dX12_endCall_15 : decode cX12_endCall 15 = .ok (.return_, 1) := by decide +kernel
set_option maxHeartbeats 4000000 in
set_option maxRecDepth 100000 in
/-- Log.force() -/
theorem c_X5_force (l : Launch) (dC : Nat → ClassId) (dI : Nat → Nat → Nat) (sz : Nat) (jo tb : Nat) (jk jt jn ju jp jb ja jl jr : Nat) (j10 j11 j12 j13 j14 j15 : Int32) : Met l yX5_force wsX5_force ({ frames := 0, cells := 0, slots := 0, locals := 0 }) (va_Pc [.ref jo] (fun U => U.heap.size = sz ∧ va_P (dC, dI) vwCl [(jo, .inr (10, [.ref tb, .ref jk, .ref jt, .ref jn, .ref ju, .ref jp, .ref jb, .ref ja, .ref jl, .ref jr, .int j10, .int j11, .int j12, .int j13, .int j14, .int j15]))] U.heap ∧ va_K (dC, dI) vwCl [] U ∧ va_D (fun _ => True) [(jo, .inr (10, [.ref tb, .ref jk, .ref jt, .ref jn, .ref ju, .ref jp, .ref jb, .ref ja, .ref jl, .ref jr, .int j10, .int j11, .int j12, .int j13, .int j14, .int j15]))])) (va_Qi (fun (r : Int32) (_ : Unit) => r = j11 - j12) (fun (_ : Unit) (t : State) => va_P (dC, dI) vwCl [(jo, .inr (10, [.ref tb, .ref jk, .ref jt, .ref jn, .ref ju, .ref jp, .ref jb, .ref ja, .ref jl, .ref jr, .int j10, .int j11, .int j11, .int j13, .int j14, .int j15]))] t.heap ∧ va_K (dC, dI) vwCl [] t ∧ va_D (va_A [(jo, .inr (10, [.ref tb, .ref jk, .ref jt, .ref jn, .ref ju, .ref jp, .ref jb, .ref ja, .ref jl, .ref jr, .int j10, .int j11, .int j12, .int j13, .int j14, .int j15]))] sz) [(jo, .inr (10, [.ref tb, .ref jk, .ref jt, .ref jn, .ref ju, .ref jp, .ref jb, .ref ja, .ref jl, .ref jr, .int j10, .int j11, .int j11, .int j13, .int j14, .int j15]))]) (va_A [(jo, .inr (10, [.ref tb, .ref jk, .ref jt, .ref jn, .ref ju, .ref jp, .ref jb, .ref ja, .ref jl, .ref jr, .int j10, .int j11, .int j12, .int j13, .int j14, .int j15]))] sz)) 0 0 (va_A [(jo, .inr (10, [.ref tb, .ref jk, .ref jt, .ref jn, .ref ju, .ref jp, .ref jb, .ref ja, .ref jl, .ref jr, .int j10, .int j11, .int j12, .int j13, .int j14, .int j15]))] sz) := by
  refine Met.ofW (cc := cX5_force) (maxL := 2) (ret := (some .int)) (by decide) rfl ?_
  intro p e s m args below meth c s₁ B hml hv
  obtain ⟨rfl, hsz, hP, hK, hD0⟩ := hv
  have hx := B.exec
  have hb := B.bytes
  have hr := B.returns
  have hts := atoms_spec (ws := wsX5_force) B.pre
  have hown : s.vm.findClass RX5 = some m.cls := findClass_of_methodNamed B.named
  have hlocks := B.notSynchronized
  subst hsz
  have hD := hD0.self (sz := s.heap.size)
  generalize hAe : va_A [(jo, .inr (10, [.ref tb, .ref jk, .ref jt, .ref jn, .ref ju, .ref jp, .ref jb, .ref ja, .ref jl, .ref jr, .int j10, .int j11, .int j12, .int j13, .int j14, .int j15]))] s.heap.size = A at hD ⊢
  have hA : ∀ q : Nat, s.heap.size ≤ q → A q := fun q h => by rw [← hAe]; exact Or.inr h
  have hS : va_S A s.heap s.heap [] := va_S.rf
  have hP : va_P (dC, dI) vwCl [(jo, .inr (10, [.ref tb, .ref jk, .ref jt, .ref jn, .ref ju, .ref jp, .ref jb, .ref ja, .ref jl, .ref jr, .int j10, .int j11, .int j12, .int j13, .int j14, .int j15]))] s.heap := hP
  have hl := lv_entry ([.ref jo]) (n := 2) (Nat.le_of_ble_eq_true rfl)
  rw [lg_entry_eq]
  generalize (lg_sl ([.ref jo]) ++ List.replicate (2 - (lg_sl ([.ref jo])).length) Slot.unset).toArray = ls at hl ⊢
  have hl : lv_has ls 2 [(0, .ref jo)] := hl
  refine lv_aload_n hx hb dX5_force_0 rfl (lv_at hl 0 rfl) ?_
  refine va_get (D := (dC, dI)) (ci := 10) (v := .int j11) (C := RX5) (T := TX5) (N := 16) hx hb hts (by decide +kernel) hown hK hP 0 rfl rfl 11 (by decide) (hts (.fieldLink RX5 50 "QueryHall$Log" "last" "I") (by decide +kernel)) (fun _ h9 => h9) rfl dX5_force_1 ?_
  refine lv_aload_n hx hb dX5_force_4 rfl (lv_at hl 0 rfl) ?_
  refine va_get (D := (dC, dI)) (ci := 10) (v := .int j12) (C := RX5) (T := TX5) (N := 16) hx hb hts (by decide +kernel) hown hK hP 0 rfl rfl 12 (by decide) (hts (.fieldLink RX5 53 "QueryHall$Log" "durable" "I") (by decide +kernel)) (fun _ h9 => h9) rfl dX5_force_5 ?_
  refine lv_isub hx hb dX5_force_8 ?_
  refine lv_topi (fun x_1 ex_1 => ?_)
  refine lv_istore_n (lv' := [(1, .int x_1), (0, .ref jo)]) hx hb dX5_force_9 rfl hl (by decide) rfl (fun ls hl => ?_)
  refine lv_aload_n hx hb dX5_force_10 rfl (lv_at hl 1 rfl) ?_
  refine lv_aload_n hx hb dX5_force_11 rfl (lv_at hl 1 rfl) ?_
  refine va_get (D := (dC, dI)) (ci := 10) (v := .int j11) (C := RX5) (T := TX5) (N := 16) hx hb hts (by decide +kernel) hown hK hP 0 rfl rfl 11 (by decide) (hts (.fieldLink RX5 50 "QueryHall$Log" "last" "I") (by decide +kernel)) (fun _ h9 => h9) rfl dX5_force_12 ?_
  refine va_put (D := (dC, dI)) (ci := 10) (v := .int j11) (ty := .int) (C := RX5) (T := TX5) (N := 16) hx hb hts (by decide +kernel) tyX5 tyX5_ok nmX5 hown hK hP hD hS 0 rfl rfl 12 (by decide) (hts (.fieldLink RX5 53 "QueryHall$Log" "durable" "I") (by decide +kernel)) (fun _ h9 => h9) rfl (by decide +kernel) rfl rfl (Nat.le_of_ble_eq_true rfl) dX5_force_15 (fun H locs hP hD hS => ?_)
  have hP : va_P (dC, dI) vwCl [(jo, .inr (10, [.ref tb, .ref jk, .ref jt, .ref jn, .ref ju, .ref jp, .ref jb, .ref ja, .ref jl, .ref jr, .int j10, .int j11, .int j11, .int j13, .int j14, .int j15]))] H := hP
  have hD : va_D A [(jo, .inr (10, [.ref tb, .ref jk, .ref jt, .ref jn, .ref ju, .ref jp, .ref jb, .ref ja, .ref jl, .ref jr, .int j10, .int j11, .int j11, .int j13, .int j14, .int j15]))] := hD
  refine lv_iload_n hx hb dX5_force_18 rfl (lv_at hl 0 rfl) ?_
  have hP9 := hP.sub (ws' := [(jo, .inr (10, [.ref tb, .ref jk, .ref jt, .ref jn, .ref ju, .ref jp, .ref jb, .ref ja, .ref jl, .ref jr, .int j10, .int j11, .int j11, .int j13, .int j14, .int j15]))]) [0] rfl
  have hD9 := hD.sub (ws' := [(jo, .inr (10, [.ref tb, .ref jk, .ref jt, .ref jn, .ref ju, .ref jp, .ref jb, .ref ja, .ref jl, .ref jr, .int j10, .int j11, .int j11, .int j13, .int j14, .int j15]))]) [0] (by decide) rfl
  have hK9 := hK.sub (tys' := []) [] rfl
  exact W.iret (v := x_1) hx hb hr (fun t ht hW => ⟨⟨x_1, (), rfl, ex_1, by rw [ht]; exact hP9, va_K.moved hW.alike hK9, hD9⟩, hS.F ht⟩) hS.2.2 dX5_force_19
set_option maxHeartbeats 4000000 in
set_option maxRecDepth 100000 in
/-- endCall() -/
theorem c_X12_endCall (l : Launch) (dC : Nat → ClassId) (dI : Nat → Nat → Nat) (sz : Nat) (h0 ss tb pa ck ev pn lk jo orw nrw : Nat) (g10 g11 g12 g13 g14 g15 : Int32) (jk jt jn ju jp jb ja jl jr : Nat) (j10 j11 j12 j13 j14 j15 : Int32) : Met l yX12_endCall wsX12_endCall ({ frames := 1, cells := 0, slots := 0, locals := 30 }) (va_Pc [.ref h0] (fun U => U.heap.size = sz ∧ va_P (dC, dI) vwCl [(h0, .inr (17, [.ref ss, .ref tb, .ref pa, .ref ck, .ref ev, .ref pn, .ref lk, .ref jo, .ref orw, .ref nrw, .int g10, .int g11, .int g12, .int g13, .int g14, .int g15])), (jo, .inr (10, [.ref tb, .ref jk, .ref jt, .ref jn, .ref ju, .ref jp, .ref jb, .ref ja, .ref jl, .ref jr, .int j10, .int j11, .int j12, .int j13, .int j14, .int j15]))] U.heap ∧ va_K (dC, dI) vwCl [] U ∧ va_D (fun _ => True) [(h0, .inr (17, [.ref ss, .ref tb, .ref pa, .ref ck, .ref ev, .ref pn, .ref lk, .ref jo, .ref orw, .ref nrw, .int g10, .int g11, .int g12, .int g13, .int g14, .int g15])), (jo, .inr (10, [.ref tb, .ref jk, .ref jt, .ref jn, .ref ju, .ref jp, .ref jb, .ref ja, .ref jl, .ref jr, .int j10, .int j11, .int j12, .int j13, .int j14, .int j15]))])) (va_Qv (fun (_ : Unit) => True) (fun (_ : Unit) (t : State) => va_P (dC, dI) vwCl [(h0, .inr (17, [.ref ss, .ref tb, .ref pa, .ref ck, .ref ev, .ref pn, .ref lk, .ref jo, .ref orw, .ref nrw, .int g10, .int g11, .int g12, .int g13, .int g14, .int g15])), (jo, .inr (10, [.ref tb, .ref jk, .ref jt, .ref jn, .ref ju, .ref jp, .ref jb, .ref ja, .ref jl, .ref jr, .int j10, .int j11, .int ((if g15 = 0 then j11 else j12)), .int j13, .int j14, .int j15]))] t.heap ∧ va_K (dC, dI) vwCl [] t ∧ va_D (va_A [(h0, .inr (17, [.ref ss, .ref tb, .ref pa, .ref ck, .ref ev, .ref pn, .ref lk, .ref jo, .ref orw, .ref nrw, .int g10, .int g11, .int g12, .int g13, .int g14, .int g15])), (jo, .inr (10, [.ref tb, .ref jk, .ref jt, .ref jn, .ref ju, .ref jp, .ref jb, .ref ja, .ref jl, .ref jr, .int j10, .int j11, .int j12, .int j13, .int j14, .int j15]))] sz) [(h0, .inr (17, [.ref ss, .ref tb, .ref pa, .ref ck, .ref ev, .ref pn, .ref lk, .ref jo, .ref orw, .ref nrw, .int g10, .int g11, .int g12, .int g13, .int g14, .int g15])), (jo, .inr (10, [.ref tb, .ref jk, .ref jt, .ref jn, .ref ju, .ref jp, .ref jb, .ref ja, .ref jl, .ref jr, .int j10, .int j11, .int ((if g15 = 0 then j11 else j12)), .int j13, .int j14, .int j15]))]) (va_A [(h0, .inr (17, [.ref ss, .ref tb, .ref pa, .ref ck, .ref ev, .ref pn, .ref lk, .ref jo, .ref orw, .ref nrw, .int g10, .int g11, .int g12, .int g13, .int g14, .int g15])), (jo, .inr (10, [.ref tb, .ref jk, .ref jt, .ref jn, .ref ju, .ref jp, .ref jb, .ref ja, .ref jl, .ref jr, .int j10, .int j11, .int j12, .int j13, .int j14, .int j15]))] sz)) 0 0 (va_A [(h0, .inr (17, [.ref ss, .ref tb, .ref pa, .ref ck, .ref ev, .ref pn, .ref lk, .ref jo, .ref orw, .ref nrw, .int g10, .int g11, .int g12, .int g13, .int g14, .int g15])), (jo, .inr (10, [.ref tb, .ref jk, .ref jt, .ref jn, .ref ju, .ref jp, .ref jb, .ref ja, .ref jl, .ref jr, .int j10, .int j11, .int j12, .int j13, .int j14, .int j15]))] sz) := by
  refine Met.ofW (cc := cX12_endCall) (maxL := 1) (ret := none) (by decide) rfl ?_
  intro p e s m args below meth c s₁ B hml hv
  obtain ⟨rfl, hsz, hP, hK, hD0⟩ := hv
  have hx := B.exec
  have hb := B.bytes
  have hr := B.returns
  have hts := atoms_spec (ws := wsX12_endCall) B.pre
  have hown : s.vm.findClass RX12 = some m.cls := findClass_of_methodNamed B.named
  have hlocks := B.notSynchronized
  subst hsz
  have hD := hD0.self (sz := s.heap.size)
  generalize hAe : va_A [(h0, .inr (17, [.ref ss, .ref tb, .ref pa, .ref ck, .ref ev, .ref pn, .ref lk, .ref jo, .ref orw, .ref nrw, .int g10, .int g11, .int g12, .int g13, .int g14, .int g15])), (jo, .inr (10, [.ref tb, .ref jk, .ref jt, .ref jn, .ref ju, .ref jp, .ref jb, .ref ja, .ref jl, .ref jr, .int j10, .int j11, .int j12, .int j13, .int j14, .int j15]))] s.heap.size = A at hD ⊢
  have hA : ∀ q : Nat, s.heap.size ≤ q → A q := fun q h => by rw [← hAe]; exact Or.inr h
  have hS : va_S A s.heap s.heap [] := va_S.rf
  have hP : va_P (dC, dI) vwCl [(h0, .inr (17, [.ref ss, .ref tb, .ref pa, .ref ck, .ref ev, .ref pn, .ref lk, .ref jo, .ref orw, .ref nrw, .int g10, .int g11, .int g12, .int g13, .int g14, .int g15])), (jo, .inr (10, [.ref tb, .ref jk, .ref jt, .ref jn, .ref ju, .ref jp, .ref jb, .ref ja, .ref jl, .ref jr, .int j10, .int j11, .int j12, .int j13, .int j14, .int j15]))] s.heap := hP
  have hl := lv_entry ([.ref h0]) (n := 1) (Nat.le_of_ble_eq_true rfl)
  rw [lg_entry_eq]
  generalize (lg_sl ([.ref h0]) ++ List.replicate (1 - (lg_sl ([.ref h0])).length) Slot.unset).toArray = ls at hl ⊢
  have hl : lv_has ls 1 [(0, .ref h0)] := hl
  refine lv_aload_n hx hb dX12_endCall_0 rfl (lv_at hl 0 rfl) ?_
  refine va_get (D := (dC, dI)) (ci := 17) (v := .int g15) (C := RX12) (T := TX12) (N := 16) hx hb hts (by decide +kernel) hown hK hP 0 rfl rfl 15 (by decide) (hts (.fieldLink RX12 234 "QueryHall" "isLazy" "Z") (by decide +kernel)) (fun _ h9 => h9) rfl dX12_endCall_1 ?_
  refine lv_if_ne (tgt := 15) hx hb dX12_endCall_4 (by decide) (fun c_1 => ?_) (fun c_1 => ?_)
  · skip
    have hP9 := hP.sub (ws' := [(h0, .inr (17, [.ref ss, .ref tb, .ref pa, .ref ck, .ref ev, .ref pn, .ref lk, .ref jo, .ref orw, .ref nrw, .int g10, .int g11, .int g12, .int g13, .int g14, .int g15])), (jo, .inr (10, [.ref tb, .ref jk, .ref jt, .ref jn, .ref ju, .ref jp, .ref jb, .ref ja, .ref jl, .ref jr, .int j10, .int j11, .int j12, .int j13, .int j14, .int j15]))]) [0, 1] rfl
    have hD9 := hD.sub (ws' := [(h0, .inr (17, [.ref ss, .ref tb, .ref pa, .ref ck, .ref ev, .ref pn, .ref lk, .ref jo, .ref orw, .ref nrw, .int g10, .int g11, .int g12, .int g13, .int g14, .int g15])), (jo, .inr (10, [.ref tb, .ref jk, .ref jt, .ref jn, .ref ju, .ref jp, .ref jb, .ref ja, .ref jl, .ref jr, .int j10, .int j11, .int j12, .int j13, .int j14, .int j15]))]) [0, 1] (by decide) rfl
    have hK9 := hK.sub (tys' := []) [] rfl
    have hw9 : ([(h0, .inr (17, [.ref ss, .ref tb, .ref pa, .ref ck, .ref ev, .ref pn, .ref lk, .ref jo, .ref orw, .ref nrw, .int g10, .int g11, .int g12, .int g13, .int g14, .int g15])), (jo, .inr (10, [.ref tb, .ref jk, .ref jt, .ref jn, .ref ju, .ref jp, .ref jb, .ref ja, .ref jl, .ref jr, .int j10, .int j11, .int j12, .int j13, .int j14, .int j15]))] : va_W) = [(h0, .inr (17, [.ref ss, .ref tb, .ref pa, .ref ck, .ref ev, .ref pn, .ref lk, .ref jo, .ref orw, .ref nrw, .int g10, .int g11, .int g12, .int g13, .int g14, .int g15])), (jo, .inr (10, [.ref tb, .ref jk, .ref jt, .ref jn, .ref ju, .ref jp, .ref jb, .ref ja, .ref jl, .ref jr, .int j10, .int j11, .int ((if g15 = 0 then j11 else j12)), .int j13, .int j14, .int j15]))] := by first | rw [if_pos (by assumption)] | rw [if_neg (by assumption)]
    rw [hw9] at hP9 hD9
    exact W.vret hx hb hr (fun t ht hW => ⟨⟨(), rfl, trivial, by rw [ht]; exact hP9, va_K.moved hW.alike hK9, hD9⟩, hS.F ht⟩) hS.2.2 dX12_endCall_15
  · skip
    refine lv_aload_n hx hb dX12_endCall_7 rfl (lv_at hl 0 rfl) ?_
    refine va_get (D := (dC, dI)) (ci := 17) (v := .ref jo) (C := RX12) (T := TX12) (N := 16) hx hb hts (by decide +kernel) hown hK hP 0 rfl rfl 7 (by decide) (hts (.fieldLink RX12 79 "QueryHall" "journal" "LQueryHall$Log;") (by decide +kernel)) (fun _ h9 => h9) rfl dX12_endCall_8 ?_
    have hPc := hP.sub (ws' := [(jo, .inr (10, [.ref tb, .ref jk, .ref jt, .ref jn, .ref ju, .ref jp, .ref jb, .ref ja, .ref jl, .ref jr, .int j10, .int j11, .int j12, .int j13, .int j14, .int j15]))]) [1] rfl
    have hDc := hD.sub (ws' := [(jo, .inr (10, [.ref tb, .ref jk, .ref jt, .ref jn, .ref ju, .ref jp, .ref jb, .ref ja, .ref jl, .ref jr, .int j10, .int j11, .int j12, .int j13, .int j14, .int j15]))]) [1] (by decide) rfl
    have hKc := hK.sub (tys' := []) [] rfl
    have hFc := va_free (wc := [(jo, .inr (10, [.ref tb, .ref jk, .ref jt, .ref jn, .ref ju, .ref jp, .ref jb, .ref ja, .ref jl, .ref jr, .int j10, .int j11, .int j12, .int j13, .int j14, .int j15]))]) hD hS hA [1] rfl
    refine va_calli (va_runV (As := []) (rest := []) ⟨hx, hb, hml, hown, hts⟩ (c_X5_force l dC dI s.heap.size jo tb jk jt jn ju jp jb ja jl jr j10 j11 j12 j13 j14 j15) (cwV 0 hts gX12_endCall_X5_force rfl rfl rfl (by decide +kernel) ⟨Nat.le_of_ble_eq_true rfl, Nat.le_of_ble_eq_true rfl⟩) ⟨fun a U g mk q => by obtain ⟨q0, q1, qP, qK, qD⟩ := q; exact ⟨q0, q1, qP, va_K.moved (u := U) (U := U.calling g mk a) (Vm.Alike.refl U.vm) qK, qD⟩, va_recv hKc hPc (ci := 10) (q0 := 0) rfl rfl, fun U hU hW => ⟨rfl, by rw [hU], by rw [hU]; exact hPc, va_K.moved hW.alike hKc, hDc.weaken (fun _ _ _ _ => trivial)⟩⟩ rfl rfl hl.1 rfl (lv_room (Nat.le_of_ble_eq_true rfl)) dX12_endCall_11 ⟨Nat.le_of_ble_eq_true rfl, Nat.le_of_ble_eq_true rfl⟩) hS (fun q _ h => hFc q h) hFc (fun r_2 u t H1 locs ht hvm hw hB hz1 hk1 hS => ?_)
    obtain ⟨hP1, hK1, hD1⟩ := hB
    rw [ht] at hP1
    obtain ⟨hP, hD⟩ := va_join (wr := [(h0, .inr (17, [.ref ss, .ref tb, .ref pa, .ref ck, .ref ev, .ref pn, .ref lk, .ref jo, .ref orw, .ref nrw, .int g10, .int g11, .int g12, .int g13, .int g14, .int g15]))]) (w1 := [(jo, .inr (10, [.ref tb, .ref jk, .ref jt, .ref jn, .ref ju, .ref jp, .ref jb, .ref ja, .ref jl, .ref jr, .int j10, .int j11, .int j11, .int j13, .int j14, .int j15]))]) hP hD [1] [0] rfl rfl (by decide) (by decide) hk1 hFc hP1 hD1
    generalize H1 = H at hP hS ⊢
    have hP := hP.sub (ws' := [(h0, .inr (17, [.ref ss, .ref tb, .ref pa, .ref ck, .ref ev, .ref pn, .ref lk, .ref jo, .ref orw, .ref nrw, .int g10, .int g11, .int g12, .int g13, .int g14, .int g15])), (jo, .inr (10, [.ref tb, .ref jk, .ref jt, .ref jn, .ref ju, .ref jp, .ref jb, .ref ja, .ref jl, .ref jr, .int j10, .int j11, .int j11, .int j13, .int j14, .int j15]))]) [0, 1] rfl
    have hD := hD.sub (ws' := [(h0, .inr (17, [.ref ss, .ref tb, .ref pa, .ref ck, .ref ev, .ref pn, .ref lk, .ref jo, .ref orw, .ref nrw, .int g10, .int g11, .int g12, .int g13, .int g14, .int g15])), (jo, .inr (10, [.ref tb, .ref jk, .ref jt, .ref jn, .ref ju, .ref jp, .ref jb, .ref ja, .ref jl, .ref jr, .int j10, .int j11, .int j11, .int j13, .int j14, .int j15]))]) [0, 1] (by decide) rfl
    have hw : r_2 = j11 - j12 := hw
    subst hw
    refine lv_pop hx hb dX12_endCall_14 rfl ?_
    have hP9 := hP.sub (ws' := [(h0, .inr (17, [.ref ss, .ref tb, .ref pa, .ref ck, .ref ev, .ref pn, .ref lk, .ref jo, .ref orw, .ref nrw, .int g10, .int g11, .int g12, .int g13, .int g14, .int g15])), (jo, .inr (10, [.ref tb, .ref jk, .ref jt, .ref jn, .ref ju, .ref jp, .ref jb, .ref ja, .ref jl, .ref jr, .int j10, .int j11, .int j11, .int j13, .int j14, .int j15]))]) [0, 1] rfl
    have hD9 := hD.sub (ws' := [(h0, .inr (17, [.ref ss, .ref tb, .ref pa, .ref ck, .ref ev, .ref pn, .ref lk, .ref jo, .ref orw, .ref nrw, .int g10, .int g11, .int g12, .int g13, .int g14, .int g15])), (jo, .inr (10, [.ref tb, .ref jk, .ref jt, .ref jn, .ref ju, .ref jp, .ref jb, .ref ja, .ref jl, .ref jr, .int j10, .int j11, .int j11, .int j13, .int j14, .int j15]))]) [0, 1] (by decide) rfl
    have hK9 := hK.sub (tys' := []) [] rfl
    have hw9 : ([(h0, .inr (17, [.ref ss, .ref tb, .ref pa, .ref ck, .ref ev, .ref pn, .ref lk, .ref jo, .ref orw, .ref nrw, .int g10, .int g11, .int g12, .int g13, .int g14, .int g15])), (jo, .inr (10, [.ref tb, .ref jk, .ref jt, .ref jn, .ref ju, .ref jp, .ref jb, .ref ja, .ref jl, .ref jr, .int j10, .int j11, .int j11, .int j13, .int j14, .int j15]))] : va_W) = [(h0, .inr (17, [.ref ss, .ref tb, .ref pa, .ref ck, .ref ev, .ref pn, .ref lk, .ref jo, .ref orw, .ref nrw, .int g10, .int g11, .int g12, .int g13, .int g14, .int g15])), (jo, .inr (10, [.ref tb, .ref jk, .ref jt, .ref jn, .ref ju, .ref jp, .ref jb, .ref ja, .ref jl, .ref jr, .int j10, .int j11, .int ((if g15 = 0 then j11 else j12)), .int j13, .int j14, .int j15]))] := by first | rw [if_pos (by assumption)] | rw [if_neg (by assumption)]
    rw [hw9] at hP9 hD9
    exact W.vret hx hb hr (fun t ht hW => ⟨⟨(), rfl, trivial, by rw [ht]; exact hP9, va_K.moved hW.alike hK9, hD9⟩, hS.F ht⟩) hS.2.2 dX12_endCall_15
set_option maxHeartbeats 4000000 in
set_option maxRecDepth 100000 in
/-- lazy(on) -/
theorem c_X12_lazy (l : Launch) (dC : Nat → ClassId) (dI : Nat → Nat → Nat) (sz : Nat) (h0 ss tb pa ck ev pn lk jo orw nrw : Nat) (g10 g11 g12 g13 g14 g15 : Int32) (jk jt jn ju jp jb ja jl jr : Nat) (j10 j11 j12 j13 j14 j15 : Int32) (p0 : Int32) (hp : narrow .boolean (.int p0) = .int p0 ∧ fits .boolean (.int p0) = true ∧ narrow .boolean (.int g15) = .int g15) : Met l yX12_lazy wsX12_lazy ({ frames := 2, cells := 0, slots := 0, locals := 60 }) (va_Pc [.ref h0, .int p0] (fun U => U.heap.size = sz ∧ va_P (dC, dI) vwCl [(h0, .inr (17, [.ref ss, .ref tb, .ref pa, .ref ck, .ref ev, .ref pn, .ref lk, .ref jo, .ref orw, .ref nrw, .int g10, .int g11, .int g12, .int g13, .int g14, .int g15])), (jo, .inr (10, [.ref tb, .ref jk, .ref jt, .ref jn, .ref ju, .ref jp, .ref jb, .ref ja, .ref jl, .ref jr, .int j10, .int j11, .int j12, .int j13, .int j14, .int j15]))] U.heap ∧ va_K (dC, dI) vwCl [] U ∧ va_D (fun _ => True) [(h0, .inr (17, [.ref ss, .ref tb, .ref pa, .ref ck, .ref ev, .ref pn, .ref lk, .ref jo, .ref orw, .ref nrw, .int g10, .int g11, .int g12, .int g13, .int g14, .int g15])), (jo, .inr (10, [.ref tb, .ref jk, .ref jt, .ref jn, .ref ju, .ref jp, .ref jb, .ref ja, .ref jl, .ref jr, .int j10, .int j11, .int j12, .int j13, .int j14, .int j15]))])) (va_Qi (fun (r : Int32) (_ : Unit) => r = g15) (fun (_ : Unit) (t : State) => va_P (dC, dI) vwCl [(h0, .inr (17, [.ref ss, .ref tb, .ref pa, .ref ck, .ref ev, .ref pn, .ref lk, .ref jo, .ref orw, .ref nrw, .int g10, .int g11, .int g12, .int g13, .int g14, .int p0])), (jo, .inr (10, [.ref tb, .ref jk, .ref jt, .ref jn, .ref ju, .ref jp, .ref jb, .ref ja, .ref jl, .ref jr, .int j10, .int j11, .int ((if p0 = 0 then j11 else j12)), .int j13, .int j14, .int j15]))] t.heap ∧ va_K (dC, dI) vwCl [] t ∧ va_D (va_A [(h0, .inr (17, [.ref ss, .ref tb, .ref pa, .ref ck, .ref ev, .ref pn, .ref lk, .ref jo, .ref orw, .ref nrw, .int g10, .int g11, .int g12, .int g13, .int g14, .int g15])), (jo, .inr (10, [.ref tb, .ref jk, .ref jt, .ref jn, .ref ju, .ref jp, .ref jb, .ref ja, .ref jl, .ref jr, .int j10, .int j11, .int j12, .int j13, .int j14, .int j15]))] sz) [(h0, .inr (17, [.ref ss, .ref tb, .ref pa, .ref ck, .ref ev, .ref pn, .ref lk, .ref jo, .ref orw, .ref nrw, .int g10, .int g11, .int g12, .int g13, .int g14, .int p0])), (jo, .inr (10, [.ref tb, .ref jk, .ref jt, .ref jn, .ref ju, .ref jp, .ref jb, .ref ja, .ref jl, .ref jr, .int j10, .int j11, .int ((if p0 = 0 then j11 else j12)), .int j13, .int j14, .int j15]))]) (va_A [(h0, .inr (17, [.ref ss, .ref tb, .ref pa, .ref ck, .ref ev, .ref pn, .ref lk, .ref jo, .ref orw, .ref nrw, .int g10, .int g11, .int g12, .int g13, .int g14, .int g15])), (jo, .inr (10, [.ref tb, .ref jk, .ref jt, .ref jn, .ref ju, .ref jp, .ref jb, .ref ja, .ref jl, .ref jr, .int j10, .int j11, .int j12, .int j13, .int j14, .int j15]))] sz)) 0 0 (va_A [(h0, .inr (17, [.ref ss, .ref tb, .ref pa, .ref ck, .ref ev, .ref pn, .ref lk, .ref jo, .ref orw, .ref nrw, .int g10, .int g11, .int g12, .int g13, .int g14, .int g15])), (jo, .inr (10, [.ref tb, .ref jk, .ref jt, .ref jn, .ref ju, .ref jp, .ref jb, .ref ja, .ref jl, .ref jr, .int j10, .int j11, .int j12, .int j13, .int j14, .int j15]))] sz) := by
  refine Met.ofW (cc := cX12_lazy) (maxL := 3) (ret := (some .boolean)) (by decide) rfl ?_
  intro p e s m args below meth c s₁ B hml hv
  obtain ⟨rfl, hsz, hP, hK, hD0⟩ := hv
  have hx := B.exec
  have hb := B.bytes
  have hr := B.returns
  have hts := atoms_spec (ws := wsX12_lazy) B.pre
  have hown : s.vm.findClass RX12 = some m.cls := findClass_of_methodNamed B.named
  have hlocks := B.notSynchronized
  subst hsz
  have hD := hD0.self (sz := s.heap.size)
  generalize hAe : va_A [(h0, .inr (17, [.ref ss, .ref tb, .ref pa, .ref ck, .ref ev, .ref pn, .ref lk, .ref jo, .ref orw, .ref nrw, .int g10, .int g11, .int g12, .int g13, .int g14, .int g15])), (jo, .inr (10, [.ref tb, .ref jk, .ref jt, .ref jn, .ref ju, .ref jp, .ref jb, .ref ja, .ref jl, .ref jr, .int j10, .int j11, .int j12, .int j13, .int j14, .int j15]))] s.heap.size = A at hD ⊢
  have hA : ∀ q : Nat, s.heap.size ≤ q → A q := fun q h => by rw [← hAe]; exact Or.inr h
  have hS : va_S A s.heap s.heap [] := va_S.rf
  have hP : va_P (dC, dI) vwCl [(h0, .inr (17, [.ref ss, .ref tb, .ref pa, .ref ck, .ref ev, .ref pn, .ref lk, .ref jo, .ref orw, .ref nrw, .int g10, .int g11, .int g12, .int g13, .int g14, .int g15])), (jo, .inr (10, [.ref tb, .ref jk, .ref jt, .ref jn, .ref ju, .ref jp, .ref jb, .ref ja, .ref jl, .ref jr, .int j10, .int j11, .int j12, .int j13, .int j14, .int j15]))] s.heap := hP
  have hl := lv_entry ([.ref h0, .int p0]) (n := 3) (Nat.le_of_ble_eq_true rfl)
  rw [lg_entry_eq]
  generalize (lg_sl ([.ref h0, .int p0]) ++ List.replicate (3 - (lg_sl ([.ref h0, .int p0])).length) Slot.unset).toArray = ls at hl ⊢
  have hl : lv_has ls 3 [(0, .ref h0), (1, .int p0)] := hl
  refine lv_aload_n hx hb dX12_lazy_0 rfl (lv_at hl 0 rfl) ?_
  refine va_get (D := (dC, dI)) (ci := 17) (v := .int g15) (C := RX12) (T := TX12) (N := 16) hx hb hts (by decide +kernel) hown hK hP 0 rfl rfl 15 (by decide) (hts (.fieldLink RX12 234 "QueryHall" "isLazy" "Z") (by decide +kernel)) (fun _ h9 => h9) rfl dX12_lazy_1 ?_
  refine lv_istore_n (lv' := [(2, .int g15), (0, .ref h0), (1, .int p0)]) hx hb dX12_lazy_4 rfl hl (by decide) rfl (fun ls hl => ?_)
  refine lv_aload_n hx hb dX12_lazy_5 rfl (lv_at hl 1 rfl) ?_
  refine lv_iload_n hx hb dX12_lazy_6 rfl (lv_at hl 2 rfl) ?_
  refine va_put (D := (dC, dI)) (ci := 17) (v := .int p0) (ty := .boolean) (C := RX12) (T := TX12) (N := 16) hx hb hts (by decide +kernel) tyX12 tyX12_ok nmX12 hown hK hP hD hS 0 rfl rfl 15 (by decide) (hts (.fieldLink RX12 234 "QueryHall" "isLazy" "Z") (by decide +kernel)) (fun _ h9 => h9) rfl (by decide +kernel) hp.1 hp.2.1 (Nat.le_of_ble_eq_true rfl) dX12_lazy_7 (fun H locs hP hD hS => ?_)
  have hP : va_P (dC, dI) vwCl [(h0, .inr (17, [.ref ss, .ref tb, .ref pa, .ref ck, .ref ev, .ref pn, .ref lk, .ref jo, .ref orw, .ref nrw, .int g10, .int g11, .int g12, .int g13, .int g14, .int p0])), (jo, .inr (10, [.ref tb, .ref jk, .ref jt, .ref jn, .ref ju, .ref jp, .ref jb, .ref ja, .ref jl, .ref jr, .int j10, .int j11, .int j12, .int j13, .int j14, .int j15]))] H := hP
  have hD : va_D A [(h0, .inr (17, [.ref ss, .ref tb, .ref pa, .ref ck, .ref ev, .ref pn, .ref lk, .ref jo, .ref orw, .ref nrw, .int g10, .int g11, .int g12, .int g13, .int g14, .int p0])), (jo, .inr (10, [.ref tb, .ref jk, .ref jt, .ref jn, .ref ju, .ref jp, .ref jb, .ref ja, .ref jl, .ref jr, .int j10, .int j11, .int j12, .int j13, .int j14, .int j15]))] := hD
  refine lv_aload_n hx hb dX12_lazy_10 rfl (lv_at hl 1 rfl) ?_
  have hPc := hP.sub (ws' := [(h0, .inr (17, [.ref ss, .ref tb, .ref pa, .ref ck, .ref ev, .ref pn, .ref lk, .ref jo, .ref orw, .ref nrw, .int g10, .int g11, .int g12, .int g13, .int g14, .int p0])), (jo, .inr (10, [.ref tb, .ref jk, .ref jt, .ref jn, .ref ju, .ref jp, .ref jb, .ref ja, .ref jl, .ref jr, .int j10, .int j11, .int j12, .int j13, .int j14, .int j15]))]) [0, 1] rfl
  have hDc := hD.sub (ws' := [(h0, .inr (17, [.ref ss, .ref tb, .ref pa, .ref ck, .ref ev, .ref pn, .ref lk, .ref jo, .ref orw, .ref nrw, .int g10, .int g11, .int g12, .int g13, .int g14, .int p0])), (jo, .inr (10, [.ref tb, .ref jk, .ref jt, .ref jn, .ref ju, .ref jp, .ref jb, .ref ja, .ref jl, .ref jr, .int j10, .int j11, .int j12, .int j13, .int j14, .int j15]))]) [0, 1] (by decide) rfl
  have hKc := hK.sub (tys' := []) [] rfl
  have hFc := va_free (wc := [(h0, .inr (17, [.ref ss, .ref tb, .ref pa, .ref ck, .ref ev, .ref pn, .ref lk, .ref jo, .ref orw, .ref nrw, .int g10, .int g11, .int g12, .int g13, .int g14, .int p0])), (jo, .inr (10, [.ref tb, .ref jk, .ref jt, .ref jn, .ref ju, .ref jp, .ref jb, .ref ja, .ref jl, .ref jr, .int j10, .int j11, .int j12, .int j13, .int j14, .int j15]))]) hD hS hA [0, 1] rfl
  refine va_callv (va_runV (As := []) (rest := []) ⟨hx, hb, hml, hown, hts⟩ (c_X12_endCall l dC dI H.size h0 ss tb pa ck ev pn lk jo orw nrw g10 g11 g12 g13 g14 p0 jk jt jn ju jp jb ja jl jr j10 j11 j12 j13 j14 j15) (cwV 0 hts gX12_lazy_X12_endCall rfl rfl rfl (by decide +kernel) ⟨Nat.le_of_ble_eq_true rfl, Nat.le_of_ble_eq_true rfl⟩) ⟨fun a U g mk q => by obtain ⟨q0, q1, qP, qK, qD⟩ := q; exact ⟨q0, q1, qP, va_K.moved (u := U) (U := U.calling g mk a) (Vm.Alike.refl U.vm) qK, qD⟩, va_recv hKc hPc (ci := 17) (q0 := 0) rfl rfl, fun U hU hW => ⟨rfl, by rw [hU], by rw [hU]; exact hPc, va_K.moved hW.alike hKc, hDc.weaken (fun _ _ _ _ => trivial)⟩⟩ rfl rfl hl.1 rfl (lv_room (Nat.le_of_ble_eq_true rfl)) dX12_lazy_11 ⟨Nat.le_of_ble_eq_true rfl, Nat.le_of_ble_eq_true rfl⟩) hS (fun q _ h => hFc q h) hFc (fun u t H1 locs ht hvm hw hB hz1 hk1 hS => ?_)
  obtain ⟨hP1, hK1, hD1⟩ := hB
  rw [ht] at hP1
  obtain ⟨hP, hD⟩ := va_join (wr := []) (w1 := [(h0, .inr (17, [.ref ss, .ref tb, .ref pa, .ref ck, .ref ev, .ref pn, .ref lk, .ref jo, .ref orw, .ref nrw, .int g10, .int g11, .int g12, .int g13, .int g14, .int p0])), (jo, .inr (10, [.ref tb, .ref jk, .ref jt, .ref jn, .ref ju, .ref jp, .ref jb, .ref ja, .ref jl, .ref jr, .int j10, .int j11, .int ((if p0 = 0 then j11 else j12)), .int j13, .int j14, .int j15]))]) hP hD [0, 1] [] rfl rfl (by decide) (by decide) hk1 hFc hP1 hD1
  generalize H1 = H at hP hS ⊢
  have hP := hP.sub (ws' := [(h0, .inr (17, [.ref ss, .ref tb, .ref pa, .ref ck, .ref ev, .ref pn, .ref lk, .ref jo, .ref orw, .ref nrw, .int g10, .int g11, .int g12, .int g13, .int g14, .int p0])), (jo, .inr (10, [.ref tb, .ref jk, .ref jt, .ref jn, .ref ju, .ref jp, .ref jb, .ref ja, .ref jl, .ref jr, .int j10, .int j11, .int ((if p0 = 0 then j11 else j12)), .int j13, .int j14, .int j15]))]) [0, 1] rfl
  have hD := hD.sub (ws' := [(h0, .inr (17, [.ref ss, .ref tb, .ref pa, .ref ck, .ref ev, .ref pn, .ref lk, .ref jo, .ref orw, .ref nrw, .int g10, .int g11, .int g12, .int g13, .int g14, .int p0])), (jo, .inr (10, [.ref tb, .ref jk, .ref jt, .ref jn, .ref ju, .ref jp, .ref jb, .ref ja, .ref jl, .ref jr, .int j10, .int j11, .int ((if p0 = 0 then j11 else j12)), .int j13, .int j14, .int j15]))]) [0, 1] (by decide) rfl
  refine lv_iload_n hx hb dX12_lazy_14 rfl (lv_at hl 0 rfl) ?_
  have hP9 := hP.sub (ws' := [(h0, .inr (17, [.ref ss, .ref tb, .ref pa, .ref ck, .ref ev, .ref pn, .ref lk, .ref jo, .ref orw, .ref nrw, .int g10, .int g11, .int g12, .int g13, .int g14, .int p0])), (jo, .inr (10, [.ref tb, .ref jk, .ref jt, .ref jn, .ref ju, .ref jp, .ref jb, .ref ja, .ref jl, .ref jr, .int j10, .int j11, .int ((if p0 = 0 then j11 else j12)), .int j13, .int j14, .int j15]))]) [0, 1] rfl
  have hD9 := hD.sub (ws' := [(h0, .inr (17, [.ref ss, .ref tb, .ref pa, .ref ck, .ref ev, .ref pn, .ref lk, .ref jo, .ref orw, .ref nrw, .int g10, .int g11, .int g12, .int g13, .int g14, .int p0])), (jo, .inr (10, [.ref tb, .ref jk, .ref jt, .ref jn, .ref ju, .ref jp, .ref jb, .ref ja, .ref jl, .ref jr, .int j10, .int j11, .int ((if p0 = 0 then j11 else j12)), .int j13, .int j14, .int j15]))]) [0, 1] (by decide) rfl
  have hK9 := hK.sub (tys' := []) [] rfl
  exact W.zret (v := g15) hx hb hr hp.2.2 (fun t ht hW => ⟨⟨g15, (), rfl, rfl, by rw [ht]; exact hP9, va_K.moved hW.alike hK9, hD9⟩, hS.F ht⟩) hS.2.2 dX12_lazy_15
set_option maxHeartbeats 4000000 in
set_option maxRecDepth 100000 in
/-- needUp() -/
theorem c_X12_needUp (l : Launch) (hl9 : l.stackTraces = false) (dC : Nat → ClassId) (dI : Nat → Nat → Nat) (sz : Nat) (h0 ss tb pa ck ev pn lk jo orw nrw : Nat) (g10 g11 g12 g13 g14 g15 : Int32) (sU : Nat) : vx_Met l yX12_needUp wsX12_needUp ({ frames := 6, cells := 1, slots := 6, locals := 100 }) (va_Pc [.ref h0] (fun U => U.heap.size = sz ∧ va_P (dC, dI) vwCl [(h0, .inr (17, [.ref ss, .ref tb, .ref pa, .ref ck, .ref ev, .ref pn, .ref lk, .ref jo, .ref orw, .ref nrw, .int g10, .int g11, .int g12, .int g13, .int g14, .int g15]))] U.heap ∧ va_K (dC, dI) vwCl [] U ∧ va_D (fun _ => True) [(h0, .inr (17, [.ref ss, .ref tb, .ref pa, .ref ck, .ref ev, .ref pn, .ref lk, .ref jo, .ref orw, .ref nrw, .int g10, .int g11, .int g12, .int g13, .int g14, .int g15]))] ∧ vk_R RX12 322 "the system is down" sU U ∧ qh_E "java/lang/IllegalStateException" "(Ljava/lang/String;)V" U ∧ qh_T (va_A [(h0, .inr (17, [.ref ss, .ref tb, .ref pa, .ref ck, .ref ev, .ref pn, .ref lk, .ref jo, .ref orw, .ref nrw, .int g10, .int g11, .int g12, .int g13, .int g14, .int g15]))] sz) U U.heap)) (va_Qv (fun (_ : Unit) => ¬ g14 = 0) (fun (_ : Unit) (t : State) => va_P (dC, dI) vwCl [(h0, .inr (17, [.ref ss, .ref tb, .ref pa, .ref ck, .ref ev, .ref pn, .ref lk, .ref jo, .ref orw, .ref nrw, .int g10, .int g11, .int g12, .int g13, .int g14, .int g15]))] t.heap ∧ va_K (dC, dI) vwCl [] t ∧ va_D (va_A [(h0, .inr (17, [.ref ss, .ref tb, .ref pa, .ref ck, .ref ev, .ref pn, .ref lk, .ref jo, .ref orw, .ref nrw, .int g10, .int g11, .int g12, .int g13, .int g14, .int g15]))] sz) [(h0, .inr (17, [.ref ss, .ref tb, .ref pa, .ref ck, .ref ev, .ref pn, .ref lk, .ref jo, .ref orw, .ref nrw, .int g10, .int g11, .int g12, .int g13, .int g14, .int g15]))]) (va_A [(h0, .inr (17, [.ref ss, .ref tb, .ref pa, .ref ck, .ref ev, .ref pn, .ref lk, .ref jo, .ref orw, .ref nrw, .int g10, .int g11, .int g12, .int g13, .int g14, .int g15]))] sz)) (vx_X (fun (_ : Unit) => g14 = 0) (fun E (_ : Unit) t => E = "java/lang/IllegalStateException" ∧ va_P (dC, dI) vwCl [(h0, .inr (17, [.ref ss, .ref tb, .ref pa, .ref ck, .ref ev, .ref pn, .ref lk, .ref jo, .ref orw, .ref nrw, .int g10, .int g11, .int g12, .int g13, .int g14, .int g15]))] t.heap ∧ va_K (dC, dI) vwCl [] t ∧ va_D (va_A [(h0, .inr (17, [.ref ss, .ref tb, .ref pa, .ref ck, .ref ev, .ref pn, .ref lk, .ref jo, .ref orw, .ref nrw, .int g10, .int g11, .int g12, .int g13, .int g14, .int g15]))] sz) [(h0, .inr (17, [.ref ss, .ref tb, .ref pa, .ref ck, .ref ev, .ref pn, .ref lk, .ref jo, .ref orw, .ref nrw, .int g10, .int g11, .int g12, .int g13, .int g14, .int g15]))]) (va_A [(h0, .inr (17, [.ref ss, .ref tb, .ref pa, .ref ck, .ref ev, .ref pn, .ref lk, .ref jo, .ref orw, .ref nrw, .int g10, .int g11, .int g12, .int g13, .int g14, .int g15]))] sz)) 1 6 (va_A [(h0, .inr (17, [.ref ss, .ref tb, .ref pa, .ref ck, .ref ev, .ref pn, .ref lk, .ref jo, .ref orw, .ref nrw, .int g10, .int g11, .int g12, .int g13, .int g14, .int g15]))] sz) := by
  refine vx_ofW (cc := cX12_needUp) (maxL := 1) (ret := none) (by decide) rfl ?_
  intro p e s m args below meth c s₁ B hml hEx hv
  obtain ⟨rfl, hsz, hP, hK, hD0, hE0, hE1, hE2⟩ := hv
  have hx := B.exec
  have hb := B.bytes
  have hr := B.returns
  have hts := atoms_spec (ws := wsX12_needUp) B.pre
  have hown : s.vm.findClass RX12 = some m.cls := findClass_of_methodNamed B.named
  have hlocks := B.notSynchronized
  subst hsz
  have hD := hD0.self (sz := s.heap.size)
  generalize hAe : va_A [(h0, .inr (17, [.ref ss, .ref tb, .ref pa, .ref ck, .ref ev, .ref pn, .ref lk, .ref jo, .ref orw, .ref nrw, .int g10, .int g11, .int g12, .int g13, .int g14, .int g15]))] s.heap.size = A at hD hE2 ⊢
  have hA : ∀ q : Nat, s.heap.size ≤ q → A q := fun q h => by rw [← hAe]; exact Or.inr h
  have hS : va_S A s.heap s.heap [] := va_S.rf
  have hP : va_P (dC, dI) vwCl [(h0, .inr (17, [.ref ss, .ref tb, .ref pa, .ref ck, .ref ev, .ref pn, .ref lk, .ref jo, .ref orw, .ref nrw, .int g10, .int g11, .int g12, .int g13, .int g14, .int g15]))] s.heap := hP
  have hl := lv_entry ([.ref h0]) (n := 1) (Nat.le_of_ble_eq_true rfl)
  rw [lg_entry_eq]
  generalize (lg_sl ([.ref h0]) ++ List.replicate (1 - (lg_sl ([.ref h0])).length) Slot.unset).toArray = ls at hl ⊢
  have hl : lv_has ls 1 [(0, .ref h0)] := hl
  refine lv_aload_n hx hb dX12_needUp_0 rfl (lv_at hl 0 rfl) ?_
  refine va_get (D := (dC, dI)) (ci := 17) (v := .int g14) (C := RX12) (T := TX12) (N := 16) hx hb hts (by decide +kernel) hown hK hP 0 rfl rfl 14 (by decide) (hts (.fieldLink RX12 56 "QueryHall" "up" "Z") (by decide +kernel)) (fun _ h9 => h9) rfl dX12_needUp_1 ?_
  refine lv_if_ne (tgt := 18) hx hb dX12_needUp_4 (by decide) (fun c_1 => ?_) (fun c_1 => ?_)
  · skip
    have hP9 := hP.sub (ws' := [(h0, .inr (17, [.ref ss, .ref tb, .ref pa, .ref ck, .ref ev, .ref pn, .ref lk, .ref jo, .ref orw, .ref nrw, .int g10, .int g11, .int g12, .int g13, .int g14, .int g15]))]) [0] rfl
    have hD9 := hD.sub (ws' := [(h0, .inr (17, [.ref ss, .ref tb, .ref pa, .ref ck, .ref ev, .ref pn, .ref lk, .ref jo, .ref orw, .ref nrw, .int g10, .int g11, .int g12, .int g13, .int g14, .int g15]))]) [0] (by decide) rfl
    have hK9 := hK.sub (tys' := []) [] rfl
    refine W.widen (k := 1) (n := 6) (Nat.le_of_ble_eq_true rfl) (Nat.le_of_ble_eq_true rfl) ?_
    exact vx_ret (W.vret hx hb hr (fun t ht hW => ⟨⟨(), rfl, (by assumption), by rw [ht]; exact hP9, va_K.moved hW.alike hK9, hD9⟩, hS.F ht⟩) hS.2.2 dX12_needUp_18)
  · skip
    have hP9 := hP.sub (ws' := [(h0, .inr (17, [.ref ss, .ref tb, .ref pa, .ref ck, .ref ev, .ref pn, .ref lk, .ref jo, .ref orw, .ref nrw, .int g10, .int g11, .int g12, .int g13, .int g14, .int g15]))]) [0] rfl
    have hD9 := hD.sub (ws' := [(h0, .inr (17, [.ref ss, .ref tb, .ref pa, .ref ck, .ref ev, .ref pn, .ref lk, .ref jo, .ref orw, .ref nrw, .int g10, .int g11, .int g12, .int g13, .int g14, .int g15]))]) [0] (by decide) rfl
    have hK9 := hK.sub (tys' := []) [] rfl
    exact vx_throwSW (own := RX12) (cls := "java/lang/IllegalStateException") (names := ["java/lang/RuntimeException", "java/lang/Exception"]) hx hb hl9 hown (by decide +kernel) (by decide +kernel) (hts (.classLink RX12 107 "java/lang/IllegalStateException") (by decide +kernel)) (hts (.initialized "java/lang/IllegalStateException") (by decide +kernel)) hE0 (vx_hat (L := vx_atS RX12 111 "java/lang/IllegalStateException" ["java/lang/RuntimeException", "java/lang/Exception"]) (B := [.castable "java/lang/IllegalStateException" "java/lang/IllegalStateException", .declares ⟨"java/lang/RuntimeException", "<init>", "(Ljava/lang/String;)V"⟩, .declares ⟨"java/lang/Exception", "<init>", "(Ljava/lang/String;)V"⟩, .declares ⟨"java/lang/Throwable", "<init>", "(Ljava/lang/String;)V"⟩]) (fun w hw => hts w ((by decide +kernel : ∀ w ∈ (vx_atS RX12 111 "java/lang/IllegalStateException" ["java/lang/RuntimeException", "java/lang/Exception"]).filter goodWord, w ∈ wsX12_needUp) w hw)) (by decide +kernel) (vx_c (va_Nw.use rfl hE1.1) (vx_c (va_Nw.use rfl hE1.2.1) (vx_c (va_Nw.use rfl hE1.2.2.1) (vx_c (va_Nw.use rfl hE1.2.2.2) (vx_n)))))) (by decide +kernel) hE2.1 hE2.2 hS (hl.1.trans hml.symm) dX12_needUp_7 dX12_needUp_10 dX12_needUp_11 dX12_needUp_14 dX12_needUp_17 (fun x hx => (hEx x hx).elim) (Nat.le_of_ble_eq_true rfl) (Nat.le_of_ble_eq_true rfl) (Nat.le_of_ble_eq_true rfl) (Nat.le_of_ble_eq_true rfl) hlocks (fun t ha hsz hk => ⟨(), (by assumption), ⟨rfl, hP9.kept (fun k q hq => hk q.1 (hP9 k q hq).lt), va_K.moved ha hK9, hD9⟩, Nat.le_trans hS.1 hsz, fun q h1 h2 => (hk q (Nat.lt_of_lt_of_le h1 hS.1)).trans (hS.2.1 q h1 h2)⟩) hS.2.2 (Nat.le_of_ble_eq_true rfl) (Nat.le_of_ble_eq_true rfl)
set_option maxHeartbeats 4000000 in
set_option maxRecDepth 100000 in
/-- sync() -/
theorem c_X12_sync (l : Launch) (hl9 : l.stackTraces = false) (dC : Nat → ClassId) (dI : Nat → Nat → Nat) (sz : Nat) (h0 ss tb pa ck ev pn lk jo orw nrw : Nat) (g10 g11 g12 g13 g14 g15 : Int32) (jk jt jn ju jp jb ja jl jr : Nat) (j10 j11 j12 j13 j14 j15 : Int32) (sU : Nat) : vx_Met l yX12_sync wsX12_sync ({ frames := 7, cells := 1, slots := 6, locals := 130 }) (va_Pc [.ref h0] (fun U => U.heap.size = sz ∧ va_P (dC, dI) vwCl [(h0, .inr (17, [.ref ss, .ref tb, .ref pa, .ref ck, .ref ev, .ref pn, .ref lk, .ref jo, .ref orw, .ref nrw, .int g10, .int g11, .int g12, .int g13, .int g14, .int g15])), (jo, .inr (10, [.ref tb, .ref jk, .ref jt, .ref jn, .ref ju, .ref jp, .ref jb, .ref ja, .ref jl, .ref jr, .int j10, .int j11, .int j12, .int j13, .int j14, .int j15]))] U.heap ∧ va_K (dC, dI) vwCl [] U ∧ va_D (fun _ => True) [(h0, .inr (17, [.ref ss, .ref tb, .ref pa, .ref ck, .ref ev, .ref pn, .ref lk, .ref jo, .ref orw, .ref nrw, .int g10, .int g11, .int g12, .int g13, .int g14, .int g15])), (jo, .inr (10, [.ref tb, .ref jk, .ref jt, .ref jn, .ref ju, .ref jp, .ref jb, .ref ja, .ref jl, .ref jr, .int j10, .int j11, .int j12, .int j13, .int j14, .int j15]))] ∧ vk_R RX12 322 "the system is down" sU U ∧ qh_E "java/lang/IllegalStateException" "(Ljava/lang/String;)V" U ∧ qh_T (va_A [(h0, .inr (17, [.ref ss, .ref tb, .ref pa, .ref ck, .ref ev, .ref pn, .ref lk, .ref jo, .ref orw, .ref nrw, .int g10, .int g11, .int g12, .int g13, .int g14, .int g15])), (jo, .inr (10, [.ref tb, .ref jk, .ref jt, .ref jn, .ref ju, .ref jp, .ref jb, .ref ja, .ref jl, .ref jr, .int j10, .int j11, .int j12, .int j13, .int j14, .int j15]))] sz) U U.heap)) (va_Qi (fun (r : Int32) (_ : Unit) => ¬ g14 = 0 ∧ r = j11 - j12) (fun (_ : Unit) (t : State) => va_P (dC, dI) vwCl [(h0, .inr (17, [.ref ss, .ref tb, .ref pa, .ref ck, .ref ev, .ref pn, .ref lk, .ref jo, .ref orw, .ref nrw, .int g10, .int g11, .int g12, .int g13, .int g14, .int g15])), (jo, .inr (10, [.ref tb, .ref jk, .ref jt, .ref jn, .ref ju, .ref jp, .ref jb, .ref ja, .ref jl, .ref jr, .int j10, .int j11, .int j11, .int j13, .int j14, .int j15]))] t.heap ∧ va_K (dC, dI) vwCl [] t ∧ va_D (va_A [(h0, .inr (17, [.ref ss, .ref tb, .ref pa, .ref ck, .ref ev, .ref pn, .ref lk, .ref jo, .ref orw, .ref nrw, .int g10, .int g11, .int g12, .int g13, .int g14, .int g15])), (jo, .inr (10, [.ref tb, .ref jk, .ref jt, .ref jn, .ref ju, .ref jp, .ref jb, .ref ja, .ref jl, .ref jr, .int j10, .int j11, .int j12, .int j13, .int j14, .int j15]))] sz) [(h0, .inr (17, [.ref ss, .ref tb, .ref pa, .ref ck, .ref ev, .ref pn, .ref lk, .ref jo, .ref orw, .ref nrw, .int g10, .int g11, .int g12, .int g13, .int g14, .int g15])), (jo, .inr (10, [.ref tb, .ref jk, .ref jt, .ref jn, .ref ju, .ref jp, .ref jb, .ref ja, .ref jl, .ref jr, .int j10, .int j11, .int j11, .int j13, .int j14, .int j15]))]) (va_A [(h0, .inr (17, [.ref ss, .ref tb, .ref pa, .ref ck, .ref ev, .ref pn, .ref lk, .ref jo, .ref orw, .ref nrw, .int g10, .int g11, .int g12, .int g13, .int g14, .int g15])), (jo, .inr (10, [.ref tb, .ref jk, .ref jt, .ref jn, .ref ju, .ref jp, .ref jb, .ref ja, .ref jl, .ref jr, .int j10, .int j11, .int j12, .int j13, .int j14, .int j15]))] sz)) (vx_X (fun (_ : Unit) => g14 = 0) (fun E (_ : Unit) t => E = "java/lang/IllegalStateException" ∧ va_P (dC, dI) vwCl [(h0, .inr (17, [.ref ss, .ref tb, .ref pa, .ref ck, .ref ev, .ref pn, .ref lk, .ref jo, .ref orw, .ref nrw, .int g10, .int g11, .int g12, .int g13, .int g14, .int g15])), (jo, .inr (10, [.ref tb, .ref jk, .ref jt, .ref jn, .ref ju, .ref jp, .ref jb, .ref ja, .ref jl, .ref jr, .int j10, .int j11, .int j12, .int j13, .int j14, .int j15]))] t.heap ∧ va_K (dC, dI) vwCl [] t ∧ va_D (va_A [(h0, .inr (17, [.ref ss, .ref tb, .ref pa, .ref ck, .ref ev, .ref pn, .ref lk, .ref jo, .ref orw, .ref nrw, .int g10, .int g11, .int g12, .int g13, .int g14, .int g15])), (jo, .inr (10, [.ref tb, .ref jk, .ref jt, .ref jn, .ref ju, .ref jp, .ref jb, .ref ja, .ref jl, .ref jr, .int j10, .int j11, .int j12, .int j13, .int j14, .int j15]))] sz) [(h0, .inr (17, [.ref ss, .ref tb, .ref pa, .ref ck, .ref ev, .ref pn, .ref lk, .ref jo, .ref orw, .ref nrw, .int g10, .int g11, .int g12, .int g13, .int g14, .int g15])), (jo, .inr (10, [.ref tb, .ref jk, .ref jt, .ref jn, .ref ju, .ref jp, .ref jb, .ref ja, .ref jl, .ref jr, .int j10, .int j11, .int j12, .int j13, .int j14, .int j15]))]) (va_A [(h0, .inr (17, [.ref ss, .ref tb, .ref pa, .ref ck, .ref ev, .ref pn, .ref lk, .ref jo, .ref orw, .ref nrw, .int g10, .int g11, .int g12, .int g13, .int g14, .int g15])), (jo, .inr (10, [.ref tb, .ref jk, .ref jt, .ref jn, .ref ju, .ref jp, .ref jb, .ref ja, .ref jl, .ref jr, .int j10, .int j11, .int j12, .int j13, .int j14, .int j15]))] sz)) 1 6 (va_A [(h0, .inr (17, [.ref ss, .ref tb, .ref pa, .ref ck, .ref ev, .ref pn, .ref lk, .ref jo, .ref orw, .ref nrw, .int g10, .int g11, .int g12, .int g13, .int g14, .int g15])), (jo, .inr (10, [.ref tb, .ref jk, .ref jt, .ref jn, .ref ju, .ref jp, .ref jb, .ref ja, .ref jl, .ref jr, .int j10, .int j11, .int j12, .int j13, .int j14, .int j15]))] sz) := by
  refine vx_ofW (cc := cX12_sync) (maxL := 1) (ret := (some .int)) (by decide) rfl ?_
  intro p e s m args below meth c s₁ B hml hEx hv
  obtain ⟨rfl, hsz, hP, hK, hD0, hE0, hE1, hE2⟩ := hv
  have hx := B.exec
  have hb := B.bytes
  have hr := B.returns
  have hts := atoms_spec (ws := wsX12_sync) B.pre
  have hown : s.vm.findClass RX12 = some m.cls := findClass_of_methodNamed B.named
  have hlocks := B.notSynchronized
  subst hsz
  have hD := hD0.self (sz := s.heap.size)
  generalize hAe : va_A [(h0, .inr (17, [.ref ss, .ref tb, .ref pa, .ref ck, .ref ev, .ref pn, .ref lk, .ref jo, .ref orw, .ref nrw, .int g10, .int g11, .int g12, .int g13, .int g14, .int g15])), (jo, .inr (10, [.ref tb, .ref jk, .ref jt, .ref jn, .ref ju, .ref jp, .ref jb, .ref ja, .ref jl, .ref jr, .int j10, .int j11, .int j12, .int j13, .int j14, .int j15]))] s.heap.size = A at hD hE2 ⊢
  have hA : ∀ q : Nat, s.heap.size ≤ q → A q := fun q h => by rw [← hAe]; exact Or.inr h
  have hS : va_S A s.heap s.heap [] := va_S.rf
  have hP : va_P (dC, dI) vwCl [(h0, .inr (17, [.ref ss, .ref tb, .ref pa, .ref ck, .ref ev, .ref pn, .ref lk, .ref jo, .ref orw, .ref nrw, .int g10, .int g11, .int g12, .int g13, .int g14, .int g15])), (jo, .inr (10, [.ref tb, .ref jk, .ref jt, .ref jn, .ref ju, .ref jp, .ref jb, .ref ja, .ref jl, .ref jr, .int j10, .int j11, .int j12, .int j13, .int j14, .int j15]))] s.heap := hP
  have hl := lv_entry ([.ref h0]) (n := 1) (Nat.le_of_ble_eq_true rfl)
  rw [lg_entry_eq]
  generalize (lg_sl ([.ref h0]) ++ List.replicate (1 - (lg_sl ([.ref h0])).length) Slot.unset).toArray = ls at hl ⊢
  have hl : lv_has ls 1 [(0, .ref h0)] := hl
  refine lv_aload_n hx hb dX12_sync_0 rfl (lv_at hl 0 rfl) ?_
  have hPc := hP.sub (ws' := [(h0, .inr (17, [.ref ss, .ref tb, .ref pa, .ref ck, .ref ev, .ref pn, .ref lk, .ref jo, .ref orw, .ref nrw, .int g10, .int g11, .int g12, .int g13, .int g14, .int g15]))]) [0] rfl
  have hDc := hD.sub (ws' := [(h0, .inr (17, [.ref ss, .ref tb, .ref pa, .ref ck, .ref ev, .ref pn, .ref lk, .ref jo, .ref orw, .ref nrw, .int g10, .int g11, .int g12, .int g13, .int g14, .int g15]))]) [0] (by decide) rfl
  have hKc := hK.sub (tys' := []) [] rfl
  have hFc := va_free (wc := [(h0, .inr (17, [.ref ss, .ref tb, .ref pa, .ref ck, .ref ev, .ref pn, .ref lk, .ref jo, .ref orw, .ref nrw, .int g10, .int g11, .int g12, .int g13, .int g14, .int g15]))]) hD hS hA [0] rfl
  refine vx_callv (vx_runV (As := []) (rest := []) ⟨hx, hb, hml, hown, hts⟩ (c_X12_needUp l hl9 dC dI s.heap.size h0 ss tb pa ck ev pn lk jo orw nrw g10 g11 g12 g13 g14 g15 sU) (cwV 0 hts gX12_sync_X12_needUp rfl rfl rfl (by decide +kernel) ⟨Nat.le_of_ble_eq_true rfl, Nat.le_of_ble_eq_true rfl⟩) ⟨fun a U g mk q => by obtain ⟨q0, q1, qP, qK, qD, qE0, qE1, qE2⟩ := q; exact ⟨q0, q1, qP, va_K.moved (u := U) (U := U.calling g mk a) (Vm.Alike.refl U.vm) qK, qD, vk_R.same rfl qE0, qh_E.same rfl qE1, qh_T.moved (u := U) (U := U.calling g mk a) (Vm.Alike.refl U.vm) qE2⟩, va_recv hKc hPc (ci := 17) (q0 := 0) rfl rfl, fun U hU hW => ⟨rfl, by rw [hU], by rw [hU]; exact hPc, va_K.moved hW.alike hKc, hDc.weaken (fun _ _ _ _ => trivial), vk_R.warm hW hE0, qh_E.warm hW hE1, by rw [hU]; exact qh_T.moved hW.alike (qh_T.narrow (qh_T.kept hE2 hS.2.1) (fun q h => hFc q h))⟩⟩ rfl rfl hl.1 rfl (lv_room (Nat.le_of_ble_eq_true rfl)) dX12_sync_1 ⟨Nat.le_of_ble_eq_true rfl, Nat.le_of_ble_eq_true rfl⟩) hS (fun q _ h => hFc q h) hFc (fun q _ h => hFc q h) (fun E ce q9 u t H1 locs ht hvm hw hB hz1 hk1 hS hce hcv hcl => ?_) (fun u t H1 locs ht hvm hw hB hz1 hk1 hS => ?_)
  · skip
    obtain ⟨rfl, hP1, hK1, hD1⟩ := hB
    rw [ht] at hP1
    obtain ⟨hP, hD⟩ := va_join (wr := [(jo, .inr (10, [.ref tb, .ref jk, .ref jt, .ref jn, .ref ju, .ref jp, .ref jb, .ref ja, .ref jl, .ref jr, .int j10, .int j11, .int j12, .int j13, .int j14, .int j15]))]) (w1 := [(h0, .inr (17, [.ref ss, .ref tb, .ref pa, .ref ck, .ref ev, .ref pn, .ref lk, .ref jo, .ref orw, .ref nrw, .int g10, .int g11, .int g12, .int g13, .int g14, .int g15]))]) hP hD [0] [1] rfl rfl (by decide) (by decide) hk1 hFc hP1 hD1
    generalize H1 = H at hP hS hce ⊢
    have hP := hP.sub (ws' := [(h0, .inr (17, [.ref ss, .ref tb, .ref pa, .ref ck, .ref ev, .ref pn, .ref lk, .ref jo, .ref orw, .ref nrw, .int g10, .int g11, .int g12, .int g13, .int g14, .int g15])), (jo, .inr (10, [.ref tb, .ref jk, .ref jt, .ref jn, .ref ju, .ref jp, .ref jb, .ref ja, .ref jl, .ref jr, .int j10, .int j11, .int j12, .int j13, .int j14, .int j15]))]) [1, 0] rfl
    have hD := hD.sub (ws' := [(h0, .inr (17, [.ref ss, .ref tb, .ref pa, .ref ck, .ref ev, .ref pn, .ref lk, .ref jo, .ref orw, .ref nrw, .int g10, .int g11, .int g12, .int g13, .int g14, .int g15])), (jo, .inr (10, [.ref tb, .ref jk, .ref jt, .ref jn, .ref ju, .ref jp, .ref jb, .ref ja, .ref jl, .ref jr, .int j10, .int j11, .int j12, .int j13, .int j14, .int j15]))]) [1, 0] (by decide) rfl
    have hP9 := hP.sub (ws' := [(h0, .inr (17, [.ref ss, .ref tb, .ref pa, .ref ck, .ref ev, .ref pn, .ref lk, .ref jo, .ref orw, .ref nrw, .int g10, .int g11, .int g12, .int g13, .int g14, .int g15])), (jo, .inr (10, [.ref tb, .ref jk, .ref jt, .ref jn, .ref ju, .ref jp, .ref jb, .ref ja, .ref jl, .ref jr, .int j10, .int j11, .int j12, .int j13, .int j14, .int j15]))]) [0, 1] rfl
    have hD9 := hD.sub (ws' := [(h0, .inr (17, [.ref ss, .ref tb, .ref pa, .ref ck, .ref ev, .ref pn, .ref lk, .ref jo, .ref orw, .ref nrw, .int g10, .int g11, .int g12, .int g13, .int g14, .int g15])), (jo, .inr (10, [.ref tb, .ref jk, .ref jt, .ref jn, .ref ju, .ref jp, .ref jb, .ref ja, .ref jl, .ref jr, .int j10, .int j11, .int j12, .int j13, .int j14, .int j15]))]) [0, 1] (by decide) rfl
    have hK9 := hK.sub (tys' := []) [] rfl
    exact vx_out (E := "java/lang/IllegalStateException") (fun x hx => (hEx x hx).elim) hlocks hce hcv hcl (fun t ht ha => ⟨(), hw, ⟨rfl, by rw [ht]; exact hP9, va_K.moved ha hK9, hD9⟩, hS.F ht⟩) hS.2.2 (Nat.le_of_ble_eq_true rfl) (Nat.le_of_ble_eq_true rfl)
  obtain ⟨hP1, hK1, hD1⟩ := hB
  rw [ht] at hP1
  obtain ⟨hP, hD⟩ := va_join (wr := [(jo, .inr (10, [.ref tb, .ref jk, .ref jt, .ref jn, .ref ju, .ref jp, .ref jb, .ref ja, .ref jl, .ref jr, .int j10, .int j11, .int j12, .int j13, .int j14, .int j15]))]) (w1 := [(h0, .inr (17, [.ref ss, .ref tb, .ref pa, .ref ck, .ref ev, .ref pn, .ref lk, .ref jo, .ref orw, .ref nrw, .int g10, .int g11, .int g12, .int g13, .int g14, .int g15]))]) hP hD [0] [1] rfl rfl (by decide) (by decide) hk1 hFc hP1 hD1
  generalize H1 = H at hP hS ⊢
  have hP := hP.sub (ws' := [(h0, .inr (17, [.ref ss, .ref tb, .ref pa, .ref ck, .ref ev, .ref pn, .ref lk, .ref jo, .ref orw, .ref nrw, .int g10, .int g11, .int g12, .int g13, .int g14, .int g15])), (jo, .inr (10, [.ref tb, .ref jk, .ref jt, .ref jn, .ref ju, .ref jp, .ref jb, .ref ja, .ref jl, .ref jr, .int j10, .int j11, .int j12, .int j13, .int j14, .int j15]))]) [1, 0] rfl
  have hD := hD.sub (ws' := [(h0, .inr (17, [.ref ss, .ref tb, .ref pa, .ref ck, .ref ev, .ref pn, .ref lk, .ref jo, .ref orw, .ref nrw, .int g10, .int g11, .int g12, .int g13, .int g14, .int g15])), (jo, .inr (10, [.ref tb, .ref jk, .ref jt, .ref jn, .ref ju, .ref jp, .ref jb, .ref ja, .ref jl, .ref jr, .int j10, .int j11, .int j12, .int j13, .int j14, .int j15]))]) [1, 0] (by decide) rfl
  have hw_2 := hw
  refine lv_aload_n hx hb dX12_sync_4 rfl (lv_at hl 0 rfl) ?_
  refine va_get (D := (dC, dI)) (ci := 17) (v := .ref jo) (C := RX12) (T := TX12) (N := 16) hx hb hts (by decide +kernel) hown hK hP 0 rfl rfl 7 (by decide) (hts (.fieldLink RX12 79 "QueryHall" "journal" "LQueryHall$Log;") (by decide +kernel)) (fun _ h9 => h9) rfl dX12_sync_5 ?_
  have hPc := hP.sub (ws' := [(jo, .inr (10, [.ref tb, .ref jk, .ref jt, .ref jn, .ref ju, .ref jp, .ref jb, .ref ja, .ref jl, .ref jr, .int j10, .int j11, .int j12, .int j13, .int j14, .int j15]))]) [1] rfl
  have hDc := hD.sub (ws' := [(jo, .inr (10, [.ref tb, .ref jk, .ref jt, .ref jn, .ref ju, .ref jp, .ref jb, .ref ja, .ref jl, .ref jr, .int j10, .int j11, .int j12, .int j13, .int j14, .int j15]))]) [1] (by decide) rfl
  have hKc := hK.sub (tys' := []) [] rfl
  have hFc := va_free (wc := [(jo, .inr (10, [.ref tb, .ref jk, .ref jt, .ref jn, .ref ju, .ref jp, .ref jb, .ref ja, .ref jl, .ref jr, .int j10, .int j11, .int j12, .int j13, .int j14, .int j15]))]) hD hS hA [1] rfl
  refine va_calli (va_runV (As := []) (rest := []) ⟨hx, hb, hml, hown, hts⟩ (c_X5_force l dC dI H.size jo tb jk jt jn ju jp jb ja jl jr j10 j11 j12 j13 j14 j15) (cwV 0 hts gX12_sync_X5_force rfl rfl rfl (by decide +kernel) ⟨Nat.le_of_ble_eq_true rfl, Nat.le_of_ble_eq_true rfl⟩) ⟨fun a U g mk q => by obtain ⟨q0, q1, qP, qK, qD⟩ := q; exact ⟨q0, q1, qP, va_K.moved (u := U) (U := U.calling g mk a) (Vm.Alike.refl U.vm) qK, qD⟩, va_recv hKc hPc (ci := 10) (q0 := 0) rfl rfl, fun U hU hW => ⟨rfl, by rw [hU], by rw [hU]; exact hPc, va_K.moved hW.alike hKc, hDc.weaken (fun _ _ _ _ => trivial)⟩⟩ rfl rfl hl.1 rfl (lv_room (Nat.le_of_ble_eq_true rfl)) dX12_sync_8 ⟨Nat.le_of_ble_eq_true rfl, Nat.le_of_ble_eq_true rfl⟩) hS (fun q _ h => hFc q h) hFc (fun r_3 u t H1 locs ht hvm hw hB hz1 hk1 hS => ?_)
  obtain ⟨hP1, hK1, hD1⟩ := hB
  rw [ht] at hP1
  obtain ⟨hP, hD⟩ := va_join (wr := [(h0, .inr (17, [.ref ss, .ref tb, .ref pa, .ref ck, .ref ev, .ref pn, .ref lk, .ref jo, .ref orw, .ref nrw, .int g10, .int g11, .int g12, .int g13, .int g14, .int g15]))]) (w1 := [(jo, .inr (10, [.ref tb, .ref jk, .ref jt, .ref jn, .ref ju, .ref jp, .ref jb, .ref ja, .ref jl, .ref jr, .int j10, .int j11, .int j11, .int j13, .int j14, .int j15]))]) hP hD [1] [0] rfl rfl (by decide) (by decide) hk1 hFc hP1 hD1
  generalize H1 = H at hP hS ⊢
  have hP := hP.sub (ws' := [(h0, .inr (17, [.ref ss, .ref tb, .ref pa, .ref ck, .ref ev, .ref pn, .ref lk, .ref jo, .ref orw, .ref nrw, .int g10, .int g11, .int g12, .int g13, .int g14, .int g15])), (jo, .inr (10, [.ref tb, .ref jk, .ref jt, .ref jn, .ref ju, .ref jp, .ref jb, .ref ja, .ref jl, .ref jr, .int j10, .int j11, .int j11, .int j13, .int j14, .int j15]))]) [0, 1] rfl
  have hD := hD.sub (ws' := [(h0, .inr (17, [.ref ss, .ref tb, .ref pa, .ref ck, .ref ev, .ref pn, .ref lk, .ref jo, .ref orw, .ref nrw, .int g10, .int g11, .int g12, .int g13, .int g14, .int g15])), (jo, .inr (10, [.ref tb, .ref jk, .ref jt, .ref jn, .ref ju, .ref jp, .ref jb, .ref ja, .ref jl, .ref jr, .int j10, .int j11, .int j11, .int j13, .int j14, .int j15]))]) [0, 1] (by decide) rfl
  have hw : r_3 = j11 - j12 := hw
  subst hw
  have hP9 := hP.sub (ws' := [(h0, .inr (17, [.ref ss, .ref tb, .ref pa, .ref ck, .ref ev, .ref pn, .ref lk, .ref jo, .ref orw, .ref nrw, .int g10, .int g11, .int g12, .int g13, .int g14, .int g15])), (jo, .inr (10, [.ref tb, .ref jk, .ref jt, .ref jn, .ref ju, .ref jp, .ref jb, .ref ja, .ref jl, .ref jr, .int j10, .int j11, .int j11, .int j13, .int j14, .int j15]))]) [0, 1] rfl
  have hD9 := hD.sub (ws' := [(h0, .inr (17, [.ref ss, .ref tb, .ref pa, .ref ck, .ref ev, .ref pn, .ref lk, .ref jo, .ref orw, .ref nrw, .int g10, .int g11, .int g12, .int g13, .int g14, .int g15])), (jo, .inr (10, [.ref tb, .ref jk, .ref jt, .ref jn, .ref ju, .ref jp, .ref jb, .ref ja, .ref jl, .ref jr, .int j10, .int j11, .int j11, .int j13, .int j14, .int j15]))]) [0, 1] (by decide) rfl
  have hK9 := hK.sub (tys' := []) [] rfl
  refine W.widen (k := 1) (n := 6) (Nat.le_of_ble_eq_true rfl) (Nat.le_of_ble_eq_true rfl) ?_
  exact vx_ret (W.iret (v := j11 - j12) hx hb hr (fun t ht hW => ⟨⟨j11 - j12, (), rfl, ⟨hw_2, rfl⟩, by rw [ht]; exact hP9, va_K.moved hW.alike hK9, hD9⟩, hS.F ht⟩) hS.2.2 dX12_sync_11)
