abbrev cX5_commit : ByteArray := prog_7_method_6_code
def yX5_commit : MethodName := ⟨RX5, "commit", "(LQueryHall$Session;)V"⟩
abbrev cX5_redo : ByteArray := prog_7_method_10_code
def yX5_redo : MethodName := ⟨RX5, "redo", "(I)I"⟩
abbrev cX5_loserOf : ByteArray := prog_7_method_14_code
def yX5_loserOf : MethodName := ⟨RX5, "loserOf", "(I)I"⟩
abbrev cX5_dropLoser : ByteArray := prog_7_method_15_code
def yX5_dropLoser : MethodName := ⟨RX5, "dropLoser", "(I)V"⟩
def wsX5_commit : List Cond := .code yX5_commit cX5_commit 2 none :: ([.fieldLink RX5 56 "QueryHall$Session" "begin" "I", .fieldLink RX5 61 "QueryHall$Session" "transaction" "I", .methodLink RX5 64 yX5_add, .instanceMethod yX5_add, .selects RX5 yX5_add yX5_add, .initialized RX5, .code yX5_add cX5_add 4 (some .int), .fieldLink RX5 50 "QueryHall$Log" "last" "I", .fieldLink RX5 9 "QueryHall$Log" "kinds" "[I", .fieldLink RX5 15 "QueryHall$Log" "transactions" "[I", .fieldLink RX5 18 "QueryHall$Log" "tableNumbers" "[I", .fieldLink RX5 21 "QueryHall$Log" "undoes" "[I", .fieldLink RX5 24 "QueryHall$Log" "previous" "[I", .fieldLink RX5 29 "QueryHall$Log" "before" "[[J", .fieldLink RX5 33 "QueryHall$Log" "after" "[[J"] ++ wsX100 ++ wsX50 ++ (vx_atM "java/lang/ArrayIndexOutOfBoundsException" ["java/lang/IndexOutOfBoundsException", "java/lang/RuntimeException", "java/lang/Exception"]).filter goodWord)
def wsX5_redo : List Cond := .code yX5_redo cX5_redo 3 (some .int) :: ([.fieldLink RX5 93 "QueryHall$Log" "redoEnd" "I", .fieldLink RX5 90 "QueryHall$Log" "redone" "I", .methodLink RX5 84 Lib.Math.min.name, .static Lib.Math.min.name, .initialized "java/lang/Math", .code Lib.Math.min.name Lib.Math.min.code 2 (some .int)] ++ wsX50)
def wsX5_loserOf : List Cond := .code yX5_loserOf cX5_loserOf 3 (some .int) :: ([.fieldLink RX5 99 "QueryHall$Log" "losers" "I", .fieldLink RX5 36 "QueryHall$Log" "loserNumbers" "[I"] ++ wsX50 ++ (vx_atM "java/lang/ArrayIndexOutOfBoundsException" ["java/lang/IndexOutOfBoundsException", "java/lang/RuntimeException", "java/lang/Exception"]).filter goodWord)
def wsX5_dropLoser : List Cond := .code yX5_dropLoser cX5_dropLoser 2 none :: ([.fieldLink RX5 99 "QueryHall$Log" "losers" "I", .fieldLink RX5 36 "QueryHall$Log" "loserNumbers" "[I", .fieldLink RX5 39 "QueryHall$Log" "loserRecords" "[I"] ++ wsX50 ++ (vx_atM "java/lang/ArrayIndexOutOfBoundsException" ["java/lang/IndexOutOfBoundsException", "java/lang/RuntimeException", "java/lang/Exception"]).filter goodWord)
set_option maxRecDepth 20000 in
theorem ggX5_commit_X5_add : GoodIn wsX5_commit wsX5_add := goodIn_ca (goodIn_r _ [7, 8, 9, 10, 11, 12, 13, 14, 15, 32, 33, 34, 35, 36, 37, 38, 39, 40, 41, 42, 43, 44, 45, 46, 47] (by decide +kernel) (by decide +kernel)) (goodIn_sub (fun _ h => List.mem_cons_of_mem _ (List.mem_append_right _ h)) (by decide +kernel))
set_option maxRecDepth 20000 in
theorem gX5_commit_X5_add : GoodIn wsX5_commit (wsV RX5 64 RX5 yX5_add wsX5_add) := goodIn_app (goodIn_of _ (by decide +kernel)) ggX5_commit_X5_add
theorem dX5_commit_0 : decode cX5_commit 0 = .ok (.aload_n 1, 1) := by decide +kernel
theorem dX5_commit_1 : decode cX5_commit 1 = .ok (.getfield 56, 3) := by decide +kernel
theorem dX5_commit_4 : decode cX5_commit 4 = .ok (.ifCond .le 14, 3) := by decide +kernel
theorem dX5_commit_7 : decode cX5_commit 7 = .ok (.aload_n 0, 1) := by decide +kernel
theorem dX5_commit_8 : decode cX5_commit 8 = .ok (.iconst 5, 1) := by decide +kernel
theorem dX5_commit_9 : decode cX5_commit 9 = .ok (.aload_n 1, 1) := by decide +kernel
theorem dX5_commit_10 : decode cX5_commit 10 = .ok (.getfield 61, 3) := by decide +kernel
theorem dX5_commit_13 : decode cX5_commit 13 = .ok (.iconst (-1), 1) := by decide +kernel
theorem dX5_commit_14 : decode cX5_commit 14 = .ok (.invokevirtual 64, 3) := by decide +kernel
theorem dX5_commit_17 : decode cX5_commit 17 = .ok (.pop, 1) := by decide +kernel
theorem dX5_commit_18 : decode cX5_commit 18 = .ok (.return_, 1) := by decide +kernel
theorem dX5_redo_0 : decode cX5_redo 0 = .ok (.iload_n 1, 1) := by decide +kernel
theorem dX5_redo_1 : decode cX5_redo 1 = .ok (.aload_n 0, 1) := by decide +kernel
theorem dX5_redo_2 : decode cX5_redo 2 = .ok (.getfield 93, 3) := by decide +kernel
theorem dX5_redo_5 : decode cX5_redo 5 = .ok (.aload_n 0, 1) := by decide +kernel
theorem dX5_redo_6 : decode cX5_redo 6 = .ok (.getfield 90, 3) := by decide +kernel
theorem dX5_redo_9 : decode cX5_redo 9 = .ok (.isub, 1) := by decide +kernel
theorem dX5_redo_10 : decode cX5_redo 10 = .ok (.invokestatic 84, 3) := by decide +kernel
theorem dX5_redo_13 : decode cX5_redo 13 = .ok (.istore_n 2, 1) := by decide +kernel
theorem dX5_redo_14 : decode cX5_redo 14 = .ok (.aload_n 0, 1) := by decide +kernel
theorem dX5_redo_15 : decode cX5_redo 15 = .ok (.dup, 1) := by decide +kernel
theorem dX5_redo_16 : decode cX5_redo 16 = .ok (.getfield 90, 3) := by decide +kernel
theorem dX5_redo_19 : decode cX5_redo 19 = .ok (.iload_n 2, 1) := by decide +kernel
theorem dX5_redo_20 : decode cX5_redo 20 = .ok (.iadd, 1) := by decide +kernel
theorem dX5_redo_21 : decode cX5_redo 21 = .ok (.putfield 90, 3) := by decide +kernel
theorem dX5_redo_24 : decode cX5_redo 24 = .ok (.iload_n 2, 1) := by decide +kernel
theorem dX5_redo_25 : decode cX5_redo 25 = .ok (.ireturn, 1) := by decide +kernel
theorem dX5_loserOf_0 : decode cX5_loserOf 0 = .ok (.iconst 0, 1) := by decide +kernel
theorem dX5_loserOf_1 : decode cX5_loserOf 1 = .ok (.istore_n 2, 1) := by decide +kernel
theorem dX5_loserOf_2 : decode cX5_loserOf 2 = .ok (.iload_n 2, 1) := by decide +kernel
theorem dX5_loserOf_3 : decode cX5_loserOf 3 = .ok (.aload_n 0, 1) := by decide +kernel
theorem dX5_loserOf_4 : decode cX5_loserOf 4 = .ok (.getfield 99, 3) := by decide +kernel
theorem dX5_loserOf_7 : decode cX5_loserOf 7 = .ok (.if_icmp .ge 21, 3) := by decide +kernel
theorem dX5_loserOf_10 : decode cX5_loserOf 10 = .ok (.aload_n 0, 1) := by decide +kernel
theorem dX5_loserOf_11 : decode cX5_loserOf 11 = .ok (.getfield 36, 3) := by decide +kernel
theorem dX5_loserOf_14 : decode cX5_loserOf 14 = .ok (.iload_n 2, 1) := by decide +kernel
theorem dX5_loserOf_15 : decode cX5_loserOf 15 = .ok (.iaload, 1) := by decide +kernel
theorem dX5_loserOf_16 : decode cX5_loserOf 16 = .ok (.iload_n 1, 1) := by decide +kernel
theorem dX5_loserOf_17 : decode cX5_loserOf 17 = .ok (.if_icmp .ne 5, 3) := by decide +kernel
theorem dX5_loserOf_20 : decode cX5_loserOf 20 = .ok (.iload_n 2, 1) := by decide +kernel
theorem dX5_loserOf_21 : decode cX5_loserOf 21 = .ok (.ireturn, 1) := by decide +kernel
theorem dX5_loserOf_22 : decode cX5_loserOf 22 = .ok (.iinc 2 1, 3) := by decide +kernel
theorem dX5_loserOf_25 : decode cX5_loserOf 25 = .ok (.goto (-23), 3) := by decide +kernel
theorem dX5_loserOf_28 : decode cX5_loserOf 28 = .ok (.iconst (-1), 1) := by decide +kernel
theorem dX5_loserOf_29 : decode cX5_loserOf 29 = .ok (.ireturn, 1) := by decide +kernel
theorem dX5_dropLoser_0 : decode cX5_dropLoser 0 = .ok (.aload_n 0, 1) := by decide +kernel
theorem dX5_dropLoser_1 : decode cX5_dropLoser 1 = .ok (.dup, 1) := by decide +kernel
theorem dX5_dropLoser_2 : decode cX5_dropLoser 2 = .ok (.getfield 99, 3) := by decide +kernel
theorem dX5_dropLoser_5 : decode cX5_dropLoser 5 = .ok (.iconst 1, 1) := by decide +kernel
theorem dX5_dropLoser_6 : decode cX5_dropLoser 6 = .ok (.isub, 1) := by decide +kernel
theorem dX5_dropLoser_7 : decode cX5_dropLoser 7 = .ok (.putfield 99, 3) := by decide +kernel
theorem dX5_dropLoser_10 : decode cX5_dropLoser 10 = .ok (.aload_n 0, 1) := by decide +kernel
theorem dX5_dropLoser_11 : decode cX5_dropLoser 11 = .ok (.getfield 36, 3) := by decide +kernel
theorem dX5_dropLoser_14 : decode cX5_dropLoser 14 = .ok (.iload_n 1, 1) := by decide +kernel
theorem dX5_dropLoser_15 : decode cX5_dropLoser 15 = .ok (.aload_n 0, 1) := by decide +kernel
theorem dX5_dropLoser_16 : decode cX5_dropLoser 16 = .ok (.getfield 36, 3) := by decide +kernel
theorem dX5_dropLoser_19 : decode cX5_dropLoser 19 = .ok (.aload_n 0, 1) := by decide +kernel
theorem dX5_dropLoser_20 : decode cX5_dropLoser 20 = .ok (.getfield 99, 3) := by decide +kernel
theorem dX5_dropLoser_23 : decode cX5_dropLoser 23 = .ok (.iaload, 1) := by decide +kernel
theorem dX5_dropLoser_24 : decode cX5_dropLoser 24 = .ok (.iastore, 1) := by decide +kernel
theorem dX5_dropLoser_25 : decode cX5_dropLoser 25 = .ok (.aload_n 0, 1) := by decide +kernel
theorem dX5_dropLoser_26 : decode cX5_dropLoser 26 = .ok (.getfield 39, 3) := by decide +kernel
theorem dX5_dropLoser_29 : decode cX5_dropLoser 29 = .ok (.iload_n 1, 1) := by decide +kernel
theorem dX5_dropLoser_30 : decode cX5_dropLoser 30 = .ok (.aload_n 0, 1) := by decide +kernel
theorem dX5_dropLoser_31 : decode cX5_dropLoser 31 = .ok (.getfield 39, 3) := by decide +kernel
theorem dX5_dropLoser_34 : decode cX5_dropLoser 34 = .ok (.aload_n 0, 1) := by decide +kernel
theorem dX5_dropLoser_35 : decode cX5_dropLoser 35 = .ok (.getfield 99, 3) := by decide +kernel
theorem dX5_dropLoser_38 : decode cX5_dropLoser 38 = .ok (.iaload, 1) := by decide +kernel
theorem dX5_dropLoser_39 : decode cX5_dropLoser 39 = .ok (.iastore, 1) := by decide +kernel
theorem dX5_dropLoser_40 : decode cX5_dropLoser 40 = .ok (.return_, 1) := by decide +kernel

def qh_ix (f : Nat → Int32) (t : Int32) : Nat → Nat → Int32
  | 0, _ => -1
  | n + 1, k => if f k = t then nI k else qh_ix f t n (k + 1)
theorem qh_ix_at {f : Nat → Int32} {t : Int32} {n k : Nat} (hk : k < n) (h : f k = t) : qh_ix f t (n - k) k = nI k := by
  rw [show n - k = (n - (k + 1)) + 1 by omega, qh_ix, if_pos h]
theorem qh_ix_on {f : Nat → Int32} {t : Int32} {n k : Nat} (hk : k < n) (h : ¬ f k = t) : qh_ix f t (n - k) k = qh_ix f t (n - (k + 1)) (k + 1) := by
  rw [show n - k = (n - (k + 1)) + 1 by omega, qh_ix, if_neg h]
set_option maxHeartbeats 4000000 in
set_option maxRecDepth 100000 in
/-- Log.redo(n) -/
theorem c_X5_redo (l : Launch) (dC : Nat → ClassId) (dI : Nat → Nat → Nat) (sz : Nat) (jo tb : Nat) (jk jt jn ju jp jb ja jl jr : Nat) (j10 j11 j12 j13 j14 j15 : Int32) (p0 : Int32) : Met l yX5_redo wsX5_redo ({ frames := 1, cells := 0, slots := 0, locals := 30 }) (va_Pc [.ref jo, .int p0] (fun U => U.heap.size = sz ∧ va_P (dC, dI) vwCl [(jo, .inr (10, [.ref tb, .ref jk, .ref jt, .ref jn, .ref ju, .ref jp, .ref jb, .ref ja, .ref jl, .ref jr, .int j10, .int j11, .int j12, .int j13, .int j14, .int j15]))] U.heap ∧ va_K (dC, dI) vwCl [] U ∧ va_D (fun _ => True) [(jo, .inr (10, [.ref tb, .ref jk, .ref jt, .ref jn, .ref ju, .ref jp, .ref jb, .ref ja, .ref jl, .ref jr, .int j10, .int j11, .int j12, .int j13, .int j14, .int j15]))])) (va_Qi (fun (r : Int32) (_ : Unit) => r = (if (j15 - j14) < p0 then (j15 - j14) else p0)) (fun (_ : Unit) (t : State) => va_P (dC, dI) vwCl [(jo, .inr (10, [.ref tb, .ref jk, .ref jt, .ref jn, .ref ju, .ref jp, .ref jb, .ref ja, .ref jl, .ref jr, .int j10, .int j11, .int j12, .int j13, .int (j14 + (if (j15 - j14) < p0 then (j15 - j14) else p0)), .int j15]))] t.heap ∧ va_K (dC, dI) vwCl [] t ∧ va_D (va_A [(jo, .inr (10, [.ref tb, .ref jk, .ref jt, .ref jn, .ref ju, .ref jp, .ref jb, .ref ja, .ref jl, .ref jr, .int j10, .int j11, .int j12, .int j13, .int j14, .int j15]))] sz) [(jo, .inr (10, [.ref tb, .ref jk, .ref jt, .ref jn, .ref ju, .ref jp, .ref jb, .ref ja, .ref jl, .ref jr, .int j10, .int j11, .int j12, .int j13, .int (j14 + (if (j15 - j14) < p0 then (j15 - j14) else p0)), .int j15]))]) (va_A [(jo, .inr (10, [.ref tb, .ref jk, .ref jt, .ref jn, .ref ju, .ref jp, .ref jb, .ref ja, .ref jl, .ref jr, .int j10, .int j11, .int j12, .int j13, .int j14, .int j15]))] sz)) 0 0 (va_A [(jo, .inr (10, [.ref tb, .ref jk, .ref jt, .ref jn, .ref ju, .ref jp, .ref jb, .ref ja, .ref jl, .ref jr, .int j10, .int j11, .int j12, .int j13, .int j14, .int j15]))] sz) := by
  refine Met.ofW (cc := cX5_redo) (maxL := 3) (ret := (some .int)) (by decide) rfl ?_
  intro p e s m args below meth c s₁ B hml hv
  obtain ⟨rfl, hsz, hP, hK, hD0⟩ := hv
  have hx := B.exec
  have hb := B.bytes
  have hr := B.returns
  have hts := atoms_spec (ws := wsX5_redo) B.pre
  have hown : s.vm.findClass RX5 = some m.cls := findClass_of_methodNamed B.named
  have hlocks := B.notSynchronized
  subst hsz
  have hD := hD0.self (sz := s.heap.size)
  generalize hAe : va_A [(jo, .inr (10, [.ref tb, .ref jk, .ref jt, .ref jn, .ref ju, .ref jp, .ref jb, .ref ja, .ref jl, .ref jr, .int j10, .int j11, .int j12, .int j13, .int j14, .int j15]))] s.heap.size = A at hD ⊢
  have hA : ∀ q : Nat, s.heap.size ≤ q → A q := fun q h => by rw [← hAe]; exact Or.inr h
  have hS : va_S A s.heap s.heap [] := va_S.rf
  have hP : va_P (dC, dI) vwCl [(jo, .inr (10, [.ref tb, .ref jk, .ref jt, .ref jn, .ref ju, .ref jp, .ref jb, .ref ja, .ref jl, .ref jr, .int j10, .int j11, .int j12, .int j13, .int j14, .int j15]))] s.heap := hP
  have hl := lv_entry ([.ref jo, .int p0]) (n := 3) (Nat.le_of_ble_eq_true rfl)
  rw [lg_entry_eq]
  generalize (lg_sl ([.ref jo, .int p0]) ++ List.replicate (3 - (lg_sl ([.ref jo, .int p0])).length) Slot.unset).toArray = ls at hl ⊢
  have hl : lv_has ls 3 [(0, .ref jo), (1, .int p0)] := hl
  refine lv_iload_n hx hb dX5_redo_0 rfl (lv_at hl 1 rfl) ?_
  refine lv_aload_n hx hb dX5_redo_1 rfl (lv_at hl 0 rfl) ?_
  refine va_get (D := (dC, dI)) (ci := 10) (v := .int j15) (C := RX5) (T := TX5) (N := 16) hx hb hts (by decide +kernel) hown hK hP 0 rfl rfl 15 (by decide) (hts (.fieldLink RX5 93 "QueryHall$Log" "redoEnd" "I") (by decide +kernel)) (fun _ h9 => h9) rfl dX5_redo_2 ?_
  refine lv_aload_n hx hb dX5_redo_5 rfl (lv_at hl 0 rfl) ?_
  refine va_get (D := (dC, dI)) (ci := 10) (v := .int j14) (C := RX5) (T := TX5) (N := 16) hx hb hts (by decide +kernel) hown hK hP 0 rfl rfl 14 (by decide) (hts (.fieldLink RX5 90 "QueryHall$Log" "redone" "I") (by decide +kernel)) (fun _ h9 => h9) rfl dX5_redo_6 ?_
  refine lv_isub hx hb dX5_redo_9 ?_
  refine va_mmin hx hb (hml.trans hl.1.symm) hown (hts (.methodLink RX5 84 Lib.Math.min.name) (by decide +kernel)) (hts (.static Lib.Math.min.name) (by decide +kernel)) (hts (.initialized "java/lang/Math") (by decide +kernel)) (hts (.code Lib.Math.min.name Lib.Math.min.code 2 (some .int)) (by decide +kernel)) (Nat.le_of_ble_eq_true rfl) (Nat.le_of_ble_eq_true rfl) (Nat.le_of_ble_eq_true rfl) (Nat.le_of_ble_eq_true rfl) dX5_redo_10 ?_
  refine lv_topi (fun x_1 ex_1 => ?_)
  refine lv_istore_n (lv' := [(2, .int x_1), (0, .ref jo), (1, .int p0)]) hx hb dX5_redo_13 rfl hl (by decide) rfl (fun ls hl => ?_)
  refine lv_aload_n hx hb dX5_redo_14 rfl (lv_at hl 1 rfl) ?_
  refine lv_dup hx hb dX5_redo_15 rfl ?_
  refine va_get (D := (dC, dI)) (ci := 10) (v := .int j14) (C := RX5) (T := TX5) (N := 16) hx hb hts (by decide +kernel) hown hK hP 0 rfl rfl 14 (by decide) (hts (.fieldLink RX5 90 "QueryHall$Log" "redone" "I") (by decide +kernel)) (fun _ h9 => h9) rfl dX5_redo_16 ?_
  refine lv_iload_n hx hb dX5_redo_19 rfl (lv_at hl 0 rfl) ?_
  refine lv_iadd hx hb dX5_redo_20 ?_
  refine lv_topi (fun x_2 ex_2 => ?_)
  refine va_put (D := (dC, dI)) (ci := 10) (v := .int x_2) (ty := .int) (C := RX5) (T := TX5) (N := 16) hx hb hts (by decide +kernel) tyX5 tyX5_ok nmX5 hown hK hP hD hS 0 rfl rfl 14 (by decide) (hts (.fieldLink RX5 90 "QueryHall$Log" "redone" "I") (by decide +kernel)) (fun _ h9 => h9) rfl (by decide +kernel) rfl rfl (Nat.le_of_ble_eq_true rfl) dX5_redo_21 (fun H locs hP hD hS => ?_)
  have hP : va_P (dC, dI) vwCl [(jo, .inr (10, [.ref tb, .ref jk, .ref jt, .ref jn, .ref ju, .ref jp, .ref jb, .ref ja, .ref jl, .ref jr, .int j10, .int j11, .int j12, .int j13, .int x_2, .int j15]))] H := hP
  have hD : va_D A [(jo, .inr (10, [.ref tb, .ref jk, .ref jt, .ref jn, .ref ju, .ref jp, .ref jb, .ref ja, .ref jl, .ref jr, .int j10, .int j11, .int j12, .int j13, .int x_2, .int j15]))] := hD
  refine lv_iload_n hx hb dX5_redo_24 rfl (lv_at hl 0 rfl) ?_
  have hP9 := hP.sub (ws' := [(jo, .inr (10, [.ref tb, .ref jk, .ref jt, .ref jn, .ref ju, .ref jp, .ref jb, .ref ja, .ref jl, .ref jr, .int j10, .int j11, .int j12, .int j13, .int x_2, .int j15]))]) [0] rfl
  have hD9 := hD.sub (ws' := [(jo, .inr (10, [.ref tb, .ref jk, .ref jt, .ref jn, .ref ju, .ref jp, .ref jb, .ref ja, .ref jl, .ref jr, .int j10, .int j11, .int j12, .int j13, .int x_2, .int j15]))]) [0] (by decide) rfl
  have hK9 := hK.sub (tys' := []) [] rfl
  have hw9 : ([(jo, .inr (10, [.ref tb, .ref jk, .ref jt, .ref jn, .ref ju, .ref jp, .ref jb, .ref ja, .ref jl, .ref jr, .int j10, .int j11, .int j12, .int j13, .int x_2, .int j15]))] : va_W) = [(jo, .inr (10, [.ref tb, .ref jk, .ref jt, .ref jn, .ref ju, .ref jp, .ref jb, .ref ja, .ref jl, .ref jr, .int j10, .int j11, .int j12, .int j13, .int (j14 + (if (j15 - j14) < p0 then (j15 - j14) else p0)), .int j15]))] := by subst_vars; rfl
  rw [hw9] at hP9 hD9
  exact W.iret (v := x_1) hx hb hr (fun t ht hW => ⟨⟨x_1, (), rfl, (by show (_ : Int32) = _; subst_vars; rfl), by rw [ht]; exact hP9, va_K.moved hW.alike hK9, hD9⟩, hS.F ht⟩) hS.2.2 dX5_redo_25
set_option maxHeartbeats 4000000 in
set_option maxRecDepth 100000 in
/-- Log.commit(s) -/
theorem c_X5_commit (l : Launch) (dC : Nat → ClassId) (dI : Nat → Nat → Nat) (sz : Nat) (jo tb : Nat) (jk jt jn ju jp jb ja jl jr : Nat) (j10 j11 j12 j13 j14 j15 : Int32) (cI cJJ : ClassId) (kf tf nf uf pf : Nat → Int32) (bf af : Nat → Option Nat) (a0 tx cd ca pl : Nat) (f4 f5 f6 f7 f8 f9 f10 f11 f12 f13 f14 f15 : Int32) (hadd : ¬ (f13 ≤ 0) → (¬ 4000 ≤ j11) ∧ vp_in (j11 + 1) 4001) : Met l yX5_commit wsX5_commit ({ frames := 1, cells := 0, slots := 0, locals := 40 }) (va_Pc [.ref jo, .ref a0] (fun U => U.heap.size = sz ∧ va_P (dC, dI) vwCl [(jo, .inr (10, [.ref tb, .ref jk, .ref jt, .ref jn, .ref ju, .ref jp, .ref jb, .ref ja, .ref jl, .ref jr, .int j10, .int j11, .int j12, .int j13, .int j14, .int j15])), (jk, .inl (cI, 4001, .inl kf)), (jt, .inl (cI, 4001, .inl tf)), (jn, .inl (cI, 4001, .inl nf)), (ju, .inl (cI, 4001, .inl uf)), (jp, .inl (cI, 4001, .inl pf)), (jb, .inl (cJJ, 4001, .inr (.inr (.inr (.inr bf))))), (ja, .inl (cJJ, 4001, .inr (.inr (.inr (.inr af))))), (a0, .inr (15, [.ref tx, .ref cd, .ref ca, .ref pl, .int f4, .int f5, .int f6, .int f7, .int f8, .int f9, .int f10, .int f11, .int f12, .int f13, .int f14, .int f15]))] U.heap ∧ va_K (dC, dI) vwCl [(cI, .int), (cJJ, .array .long)] U ∧ va_D (fun _ => True) [(jo, .inr (10, [.ref tb, .ref jk, .ref jt, .ref jn, .ref ju, .ref jp, .ref jb, .ref ja, .ref jl, .ref jr, .int j10, .int j11, .int j12, .int j13, .int j14, .int j15])), (jk, .inl (cI, 4001, .inl kf)), (jt, .inl (cI, 4001, .inl tf)), (jn, .inl (cI, 4001, .inl nf)), (ju, .inl (cI, 4001, .inl uf)), (jp, .inl (cI, 4001, .inl pf)), (jb, .inl (cJJ, 4001, .inr (.inr (.inr (.inr bf))))), (ja, .inl (cJJ, 4001, .inr (.inr (.inr (.inr af))))), (a0, .inr (15, [.ref tx, .ref cd, .ref ca, .ref pl, .int f4, .int f5, .int f6, .int f7, .int f8, .int f9, .int f10, .int f11, .int f12, .int f13, .int f14, .int f15]))])) (va_Qv (fun (_ : Unit) => True) (fun (_ : Unit) (t : State) => va_P (dC, dI) vwCl [(jo, .inr (10, [.ref tb, .ref jk, .ref jt, .ref jn, .ref ju, .ref jp, .ref jb, .ref ja, .ref jl, .ref jr, .int j10, .int (if (f13 ≤ 0) then j11 else j11 + 1), .int j12, .int j13, .int j14, .int j15])), (jk, .inl (cI, 4001, .inl (if (f13 ≤ 0) then kf else upd kf (j11 + 1).toNatClampNeg 5))), (jt, .inl (cI, 4001, .inl (if (f13 ≤ 0) then tf else upd tf (j11 + 1).toNatClampNeg f11))), (jn, .inl (cI, 4001, .inl (if (f13 ≤ 0) then nf else upd nf (j11 + 1).toNatClampNeg (-1)))), (ju, .inl (cI, 4001, .inl (if (f13 ≤ 0) then uf else upd uf (j11 + 1).toNatClampNeg (-1)))), (jp, .inl (cI, 4001, .inl (if (f13 ≤ 0) then pf else upd pf (j11 + 1).toNatClampNeg 0))), (jb, .inl (cJJ, 4001, .inr (.inr (.inr (.inr (if (f13 ≤ 0) then bf else va_up bf (j11 + 1).toNatClampNeg none)))))), (ja, .inl (cJJ, 4001, .inr (.inr (.inr (.inr (if (f13 ≤ 0) then af else va_up af (j11 + 1).toNatClampNeg none)))))), (a0, .inr (15, [.ref tx, .ref cd, .ref ca, .ref pl, .int f4, .int f5, .int f6, .int f7, .int f8, .int f9, .int f10, .int f11, .int f12, .int f13, .int f14, .int f15]))] t.heap ∧ va_K (dC, dI) vwCl [(cI, .int), (cJJ, .array .long)] t ∧ va_D (va_A [(jo, .inr (10, [.ref tb, .ref jk, .ref jt, .ref jn, .ref ju, .ref jp, .ref jb, .ref ja, .ref jl, .ref jr, .int j10, .int j11, .int j12, .int j13, .int j14, .int j15])), (jk, .inl (cI, 4001, .inl kf)), (jt, .inl (cI, 4001, .inl tf)), (jn, .inl (cI, 4001, .inl nf)), (ju, .inl (cI, 4001, .inl uf)), (jp, .inl (cI, 4001, .inl pf)), (jb, .inl (cJJ, 4001, .inr (.inr (.inr (.inr bf))))), (ja, .inl (cJJ, 4001, .inr (.inr (.inr (.inr af))))), (a0, .inr (15, [.ref tx, .ref cd, .ref ca, .ref pl, .int f4, .int f5, .int f6, .int f7, .int f8, .int f9, .int f10, .int f11, .int f12, .int f13, .int f14, .int f15]))] sz) [(jo, .inr (10, [.ref tb, .ref jk, .ref jt, .ref jn, .ref ju, .ref jp, .ref jb, .ref ja, .ref jl, .ref jr, .int j10, .int (if (f13 ≤ 0) then j11 else j11 + 1), .int j12, .int j13, .int j14, .int j15])), (jk, .inl (cI, 4001, .inl (if (f13 ≤ 0) then kf else upd kf (j11 + 1).toNatClampNeg 5))), (jt, .inl (cI, 4001, .inl (if (f13 ≤ 0) then tf else upd tf (j11 + 1).toNatClampNeg f11))), (jn, .inl (cI, 4001, .inl (if (f13 ≤ 0) then nf else upd nf (j11 + 1).toNatClampNeg (-1)))), (ju, .inl (cI, 4001, .inl (if (f13 ≤ 0) then uf else upd uf (j11 + 1).toNatClampNeg (-1)))), (jp, .inl (cI, 4001, .inl (if (f13 ≤ 0) then pf else upd pf (j11 + 1).toNatClampNeg 0))), (jb, .inl (cJJ, 4001, .inr (.inr (.inr (.inr (if (f13 ≤ 0) then bf else va_up bf (j11 + 1).toNatClampNeg none)))))), (ja, .inl (cJJ, 4001, .inr (.inr (.inr (.inr (if (f13 ≤ 0) then af else va_up af (j11 + 1).toNatClampNeg none)))))), (a0, .inr (15, [.ref tx, .ref cd, .ref ca, .ref pl, .int f4, .int f5, .int f6, .int f7, .int f8, .int f9, .int f10, .int f11, .int f12, .int f13, .int f14, .int f15]))]) (va_A [(jo, .inr (10, [.ref tb, .ref jk, .ref jt, .ref jn, .ref ju, .ref jp, .ref jb, .ref ja, .ref jl, .ref jr, .int j10, .int j11, .int j12, .int j13, .int j14, .int j15])), (jk, .inl (cI, 4001, .inl kf)), (jt, .inl (cI, 4001, .inl tf)), (jn, .inl (cI, 4001, .inl nf)), (ju, .inl (cI, 4001, .inl uf)), (jp, .inl (cI, 4001, .inl pf)), (jb, .inl (cJJ, 4001, .inr (.inr (.inr (.inr bf))))), (ja, .inl (cJJ, 4001, .inr (.inr (.inr (.inr af))))), (a0, .inr (15, [.ref tx, .ref cd, .ref ca, .ref pl, .int f4, .int f5, .int f6, .int f7, .int f8, .int f9, .int f10, .int f11, .int f12, .int f13, .int f14, .int f15]))] sz)) 0 0 (va_A [(jo, .inr (10, [.ref tb, .ref jk, .ref jt, .ref jn, .ref ju, .ref jp, .ref jb, .ref ja, .ref jl, .ref jr, .int j10, .int j11, .int j12, .int j13, .int j14, .int j15])), (jk, .inl (cI, 4001, .inl kf)), (jt, .inl (cI, 4001, .inl tf)), (jn, .inl (cI, 4001, .inl nf)), (ju, .inl (cI, 4001, .inl uf)), (jp, .inl (cI, 4001, .inl pf)), (jb, .inl (cJJ, 4001, .inr (.inr (.inr (.inr bf))))), (ja, .inl (cJJ, 4001, .inr (.inr (.inr (.inr af))))), (a0, .inr (15, [.ref tx, .ref cd, .ref ca, .ref pl, .int f4, .int f5, .int f6, .int f7, .int f8, .int f9, .int f10, .int f11, .int f12, .int f13, .int f14, .int f15]))] sz) := by
  refine Met.ofW (cc := cX5_commit) (maxL := 2) (ret := none) (by decide) rfl ?_
  intro p e s m args below meth c s₁ B hml hv
  obtain ⟨rfl, hsz, hP, hK, hD0⟩ := hv
  have hx := B.exec
  have hb := B.bytes
  have hr := B.returns
  have hts := atoms_spec (ws := wsX5_commit) B.pre
  have hown : s.vm.findClass RX5 = some m.cls := findClass_of_methodNamed B.named
  have hlocks := B.notSynchronized
  subst hsz
  have hD := hD0.self (sz := s.heap.size)
  generalize hAe : va_A [(jo, .inr (10, [.ref tb, .ref jk, .ref jt, .ref jn, .ref ju, .ref jp, .ref jb, .ref ja, .ref jl, .ref jr, .int j10, .int j11, .int j12, .int j13, .int j14, .int j15])), (jk, .inl (cI, 4001, .inl kf)), (jt, .inl (cI, 4001, .inl tf)), (jn, .inl (cI, 4001, .inl nf)), (ju, .inl (cI, 4001, .inl uf)), (jp, .inl (cI, 4001, .inl pf)), (jb, .inl (cJJ, 4001, .inr (.inr (.inr (.inr bf))))), (ja, .inl (cJJ, 4001, .inr (.inr (.inr (.inr af))))), (a0, .inr (15, [.ref tx, .ref cd, .ref ca, .ref pl, .int f4, .int f5, .int f6, .int f7, .int f8, .int f9, .int f10, .int f11, .int f12, .int f13, .int f14, .int f15]))] s.heap.size = A at hD ⊢
  have hA : ∀ q : Nat, s.heap.size ≤ q → A q := fun q h => by rw [← hAe]; exact Or.inr h
  have hS : va_S A s.heap s.heap [] := va_S.rf
  have hP : va_P (dC, dI) vwCl [(jo, .inr (10, [.ref tb, .ref jk, .ref jt, .ref jn, .ref ju, .ref jp, .ref jb, .ref ja, .ref jl, .ref jr, .int j10, .int j11, .int j12, .int j13, .int j14, .int j15])), (jk, .inl (cI, 4001, .inl kf)), (jt, .inl (cI, 4001, .inl tf)), (jn, .inl (cI, 4001, .inl nf)), (ju, .inl (cI, 4001, .inl uf)), (jp, .inl (cI, 4001, .inl pf)), (jb, .inl (cJJ, 4001, .inr (.inr (.inr (.inr bf))))), (ja, .inl (cJJ, 4001, .inr (.inr (.inr (.inr af))))), (a0, .inr (15, [.ref tx, .ref cd, .ref ca, .ref pl, .int f4, .int f5, .int f6, .int f7, .int f8, .int f9, .int f10, .int f11, .int f12, .int f13, .int f14, .int f15]))] s.heap := hP
  have hl := lv_entry ([.ref jo, .ref a0]) (n := 2) (Nat.le_of_ble_eq_true rfl)
  rw [lg_entry_eq]
  generalize (lg_sl ([.ref jo, .ref a0]) ++ List.replicate (2 - (lg_sl ([.ref jo, .ref a0])).length) Slot.unset).toArray = ls at hl ⊢
  have hl : lv_has ls 2 [(0, .ref jo), (1, .ref a0)] := hl
  refine lv_aload_n hx hb dX5_commit_0 rfl (lv_at hl 1 rfl) ?_
  refine va_get (D := (dC, dI)) (ci := 15) (v := .int f13) (C := RX10) (T := TX10) (N := 16) hx hb hts (by decide +kernel) hown hK hP 8 rfl rfl 13 (by decide) (hts (.fieldLink RX5 56 "QueryHall$Session" "begin" "I") (by decide +kernel)) (fun _ h9 => h9) rfl dX5_commit_1 ?_
  refine lv_if_le (tgt := 18) hx hb dX5_commit_4 (by decide) (fun c_1 => ?_) (fun c_1 => ?_)
  · skip
    have hP9 := hP.sub (ws' := [(jo, .inr (10, [.ref tb, .ref jk, .ref jt, .ref jn, .ref ju, .ref jp, .ref jb, .ref ja, .ref jl, .ref jr, .int j10, .int j11, .int j12, .int j13, .int j14, .int j15])), (jk, .inl (cI, 4001, .inl kf)), (jt, .inl (cI, 4001, .inl tf)), (jn, .inl (cI, 4001, .inl nf)), (ju, .inl (cI, 4001, .inl uf)), (jp, .inl (cI, 4001, .inl pf)), (jb, .inl (cJJ, 4001, .inr (.inr (.inr (.inr bf))))), (ja, .inl (cJJ, 4001, .inr (.inr (.inr (.inr af))))), (a0, .inr (15, [.ref tx, .ref cd, .ref ca, .ref pl, .int f4, .int f5, .int f6, .int f7, .int f8, .int f9, .int f10, .int f11, .int f12, .int f13, .int f14, .int f15]))]) [0, 1, 2, 3, 4, 5, 6, 7, 8] rfl
    have hD9 := hD.sub (ws' := [(jo, .inr (10, [.ref tb, .ref jk, .ref jt, .ref jn, .ref ju, .ref jp, .ref jb, .ref ja, .ref jl, .ref jr, .int j10, .int j11, .int j12, .int j13, .int j14, .int j15])), (jk, .inl (cI, 4001, .inl kf)), (jt, .inl (cI, 4001, .inl tf)), (jn, .inl (cI, 4001, .inl nf)), (ju, .inl (cI, 4001, .inl uf)), (jp, .inl (cI, 4001, .inl pf)), (jb, .inl (cJJ, 4001, .inr (.inr (.inr (.inr bf))))), (ja, .inl (cJJ, 4001, .inr (.inr (.inr (.inr af))))), (a0, .inr (15, [.ref tx, .ref cd, .ref ca, .ref pl, .int f4, .int f5, .int f6, .int f7, .int f8, .int f9, .int f10, .int f11, .int f12, .int f13, .int f14, .int f15]))]) [0, 1, 2, 3, 4, 5, 6, 7, 8] (by decide) rfl
    have hK9 := hK.sub (tys' := [(cI, .int), (cJJ, .array .long)]) [0, 1] rfl
    have hw9 : ([(jo, .inr (10, [.ref tb, .ref jk, .ref jt, .ref jn, .ref ju, .ref jp, .ref jb, .ref ja, .ref jl, .ref jr, .int j10, .int j11, .int j12, .int j13, .int j14, .int j15])), (jk, .inl (cI, 4001, .inl kf)), (jt, .inl (cI, 4001, .inl tf)), (jn, .inl (cI, 4001, .inl nf)), (ju, .inl (cI, 4001, .inl uf)), (jp, .inl (cI, 4001, .inl pf)), (jb, .inl (cJJ, 4001, .inr (.inr (.inr (.inr bf))))), (ja, .inl (cJJ, 4001, .inr (.inr (.inr (.inr af))))), (a0, .inr (15, [.ref tx, .ref cd, .ref ca, .ref pl, .int f4, .int f5, .int f6, .int f7, .int f8, .int f9, .int f10, .int f11, .int f12, .int f13, .int f14, .int f15]))] : va_W) = [(jo, .inr (10, [.ref tb, .ref jk, .ref jt, .ref jn, .ref ju, .ref jp, .ref jb, .ref ja, .ref jl, .ref jr, .int j10, .int (if (f13 ≤ 0) then j11 else j11 + 1), .int j12, .int j13, .int j14, .int j15])), (jk, .inl (cI, 4001, .inl (if (f13 ≤ 0) then kf else upd kf (j11 + 1).toNatClampNeg 5))), (jt, .inl (cI, 4001, .inl (if (f13 ≤ 0) then tf else upd tf (j11 + 1).toNatClampNeg f11))), (jn, .inl (cI, 4001, .inl (if (f13 ≤ 0) then nf else upd nf (j11 + 1).toNatClampNeg (-1)))), (ju, .inl (cI, 4001, .inl (if (f13 ≤ 0) then uf else upd uf (j11 + 1).toNatClampNeg (-1)))), (jp, .inl (cI, 4001, .inl (if (f13 ≤ 0) then pf else upd pf (j11 + 1).toNatClampNeg 0))), (jb, .inl (cJJ, 4001, .inr (.inr (.inr (.inr (if (f13 ≤ 0) then bf else va_up bf (j11 + 1).toNatClampNeg none)))))), (ja, .inl (cJJ, 4001, .inr (.inr (.inr (.inr (if (f13 ≤ 0) then af else va_up af (j11 + 1).toNatClampNeg none)))))), (a0, .inr (15, [.ref tx, .ref cd, .ref ca, .ref pl, .int f4, .int f5, .int f6, .int f7, .int f8, .int f9, .int f10, .int f11, .int f12, .int f13, .int f14, .int f15]))] := by first | simp only [if_pos c_1] | simp only [if_neg c_1]
    rw [hw9] at hP9 hD9
    exact W.vret hx hb hr (fun t ht hW => ⟨⟨(), rfl, trivial, by rw [ht]; exact hP9, va_K.moved hW.alike hK9, hD9⟩, hS.F ht⟩) hS.2.2 dX5_commit_18
  · skip
    refine lv_aload_n hx hb dX5_commit_7 rfl (lv_at hl 0 rfl) ?_
    refine lv_iconst (v := 5) hx hb dX5_commit_8 (by decide) ?_
    refine lv_aload_n hx hb dX5_commit_9 rfl (lv_at hl 1 rfl) ?_
    refine va_get (D := (dC, dI)) (ci := 15) (v := .int f11) (C := RX10) (T := TX10) (N := 16) hx hb hts (by decide +kernel) hown hK hP 8 rfl rfl 11 (by decide) (hts (.fieldLink RX5 61 "QueryHall$Session" "transaction" "I") (by decide +kernel)) (fun _ h9 => h9) rfl dX5_commit_10 ?_
    refine lv_iconst (v := -1) hx hb dX5_commit_13 (by decide) ?_
    have hPc := hP.sub (ws' := [(jo, .inr (10, [.ref tb, .ref jk, .ref jt, .ref jn, .ref ju, .ref jp, .ref jb, .ref ja, .ref jl, .ref jr, .int j10, .int j11, .int j12, .int j13, .int j14, .int j15])), (jk, .inl (cI, 4001, .inl kf)), (jt, .inl (cI, 4001, .inl tf)), (jn, .inl (cI, 4001, .inl nf)), (ju, .inl (cI, 4001, .inl uf)), (jp, .inl (cI, 4001, .inl pf)), (jb, .inl (cJJ, 4001, .inr (.inr (.inr (.inr bf))))), (ja, .inl (cJJ, 4001, .inr (.inr (.inr (.inr af)))))]) [0, 1, 2, 3, 4, 5, 6, 7] rfl
    have hDc := hD.sub (ws' := [(jo, .inr (10, [.ref tb, .ref jk, .ref jt, .ref jn, .ref ju, .ref jp, .ref jb, .ref ja, .ref jl, .ref jr, .int j10, .int j11, .int j12, .int j13, .int j14, .int j15])), (jk, .inl (cI, 4001, .inl kf)), (jt, .inl (cI, 4001, .inl tf)), (jn, .inl (cI, 4001, .inl nf)), (ju, .inl (cI, 4001, .inl uf)), (jp, .inl (cI, 4001, .inl pf)), (jb, .inl (cJJ, 4001, .inr (.inr (.inr (.inr bf))))), (ja, .inl (cJJ, 4001, .inr (.inr (.inr (.inr af)))))]) [0, 1, 2, 3, 4, 5, 6, 7] (by decide) rfl
    have hKc := hK.sub (tys' := [(cI, .int), (cJJ, .array .long)]) [0, 1] rfl
    have hFc := va_free (wc := [(jo, .inr (10, [.ref tb, .ref jk, .ref jt, .ref jn, .ref ju, .ref jp, .ref jb, .ref ja, .ref jl, .ref jr, .int j10, .int j11, .int j12, .int j13, .int j14, .int j15])), (jk, .inl (cI, 4001, .inl kf)), (jt, .inl (cI, 4001, .inl tf)), (jn, .inl (cI, 4001, .inl nf)), (ju, .inl (cI, 4001, .inl uf)), (jp, .inl (cI, 4001, .inl pf)), (jb, .inl (cJJ, 4001, .inr (.inr (.inr (.inr bf))))), (ja, .inl (cJJ, 4001, .inr (.inr (.inr (.inr af)))))]) hD hS hA [0, 1, 2, 3, 4, 5, 6, 7] rfl
    refine va_calli (va_runV (As := [.int 5, .int f11, .int (-1)]) (rest := []) ⟨hx, hb, hml, hown, hts⟩ (c_X5_add l dC dI s.heap.size jo tb jk jt jn ju jp jb ja jl jr j10 j11 j12 j13 j14 j15 cI cJJ kf tf nf uf pf bf af 5 f11 (-1) ((hadd c_1).1) ((hadd c_1).2)) (cwV 3 hts gX5_commit_X5_add rfl rfl rfl (by decide +kernel) ⟨Nat.le_of_ble_eq_true rfl, Nat.le_of_ble_eq_true rfl⟩) ⟨fun a U g mk q => by obtain ⟨q0, q1, qP, qK, qD⟩ := q; exact ⟨q0, q1, qP, va_K.moved (u := U) (U := U.calling g mk a) (Vm.Alike.refl U.vm) qK, qD⟩, va_recv hKc hPc (ci := 10) (q0 := 0) rfl rfl, fun U hU hW => ⟨rfl, by rw [hU], by rw [hU]; exact hPc, va_K.moved hW.alike hKc, hDc.weaken (fun _ _ _ _ => trivial)⟩⟩ rfl rfl hl.1 rfl (lv_room (Nat.le_of_ble_eq_true rfl)) dX5_commit_14 ⟨Nat.le_of_ble_eq_true rfl, Nat.le_of_ble_eq_true rfl⟩) hS (fun q _ h => hFc q h) hFc (fun r_2 u t H1 locs ht hvm hw hB hz1 hk1 hS => ?_)
    obtain ⟨hP1, hK1, hD1⟩ := hB
    rw [ht] at hP1
    obtain ⟨hP, hD⟩ := va_join (wr := [(a0, .inr (15, [.ref tx, .ref cd, .ref ca, .ref pl, .int f4, .int f5, .int f6, .int f7, .int f8, .int f9, .int f10, .int f11, .int f12, .int f13, .int f14, .int f15]))]) (w1 := [(jo, .inr (10, [.ref tb, .ref jk, .ref jt, .ref jn, .ref ju, .ref jp, .ref jb, .ref ja, .ref jl, .ref jr, .int j10, .int (j11 + 1), .int j12, .int j13, .int j14, .int j15])), (jk, .inl (cI, 4001, .inl (upd kf (j11 + 1).toNatClampNeg 5))), (jt, .inl (cI, 4001, .inl (upd tf (j11 + 1).toNatClampNeg f11))), (jn, .inl (cI, 4001, .inl (upd nf (j11 + 1).toNatClampNeg (-1)))), (ju, .inl (cI, 4001, .inl (upd uf (j11 + 1).toNatClampNeg (-1)))), (jp, .inl (cI, 4001, .inl (upd pf (j11 + 1).toNatClampNeg 0))), (jb, .inl (cJJ, 4001, .inr (.inr (.inr (.inr (va_up bf (j11 + 1).toNatClampNeg none)))))), (ja, .inl (cJJ, 4001, .inr (.inr (.inr (.inr (va_up af (j11 + 1).toNatClampNeg none))))))]) hP hD [0, 1, 2, 3, 4, 5, 6, 7] [8] rfl rfl (by decide) (by decide) hk1 hFc hP1 hD1
    generalize H1 = H at hP hS ⊢
    have hP := hP.sub (ws' := [(jo, .inr (10, [.ref tb, .ref jk, .ref jt, .ref jn, .ref ju, .ref jp, .ref jb, .ref ja, .ref jl, .ref jr, .int j10, .int (j11 + 1), .int j12, .int j13, .int j14, .int j15])), (jk, .inl (cI, 4001, .inl (upd kf (j11 + 1).toNatClampNeg 5))), (jt, .inl (cI, 4001, .inl (upd tf (j11 + 1).toNatClampNeg f11))), (jn, .inl (cI, 4001, .inl (upd nf (j11 + 1).toNatClampNeg (-1)))), (ju, .inl (cI, 4001, .inl (upd uf (j11 + 1).toNatClampNeg (-1)))), (jp, .inl (cI, 4001, .inl (upd pf (j11 + 1).toNatClampNeg 0))), (jb, .inl (cJJ, 4001, .inr (.inr (.inr (.inr (va_up bf (j11 + 1).toNatClampNeg none)))))), (ja, .inl (cJJ, 4001, .inr (.inr (.inr (.inr (va_up af (j11 + 1).toNatClampNeg none)))))), (a0, .inr (15, [.ref tx, .ref cd, .ref ca, .ref pl, .int f4, .int f5, .int f6, .int f7, .int f8, .int f9, .int f10, .int f11, .int f12, .int f13, .int f14, .int f15]))]) [1, 2, 3, 4, 5, 6, 7, 8, 0] rfl
    have hD := hD.sub (ws' := [(jo, .inr (10, [.ref tb, .ref jk, .ref jt, .ref jn, .ref ju, .ref jp, .ref jb, .ref ja, .ref jl, .ref jr, .int j10, .int (j11 + 1), .int j12, .int j13, .int j14, .int j15])), (jk, .inl (cI, 4001, .inl (upd kf (j11 + 1).toNatClampNeg 5))), (jt, .inl (cI, 4001, .inl (upd tf (j11 + 1).toNatClampNeg f11))), (jn, .inl (cI, 4001, .inl (upd nf (j11 + 1).toNatClampNeg (-1)))), (ju, .inl (cI, 4001, .inl (upd uf (j11 + 1).toNatClampNeg (-1)))), (jp, .inl (cI, 4001, .inl (upd pf (j11 + 1).toNatClampNeg 0))), (jb, .inl (cJJ, 4001, .inr (.inr (.inr (.inr (va_up bf (j11 + 1).toNatClampNeg none)))))), (ja, .inl (cJJ, 4001, .inr (.inr (.inr (.inr (va_up af (j11 + 1).toNatClampNeg none)))))), (a0, .inr (15, [.ref tx, .ref cd, .ref ca, .ref pl, .int f4, .int f5, .int f6, .int f7, .int f8, .int f9, .int f10, .int f11, .int f12, .int f13, .int f14, .int f15]))]) [1, 2, 3, 4, 5, 6, 7, 8, 0] (by decide) rfl
    have hw : r_2 = j11 + 1 := hw
    subst hw
    refine lv_pop hx hb dX5_commit_17 rfl ?_
    have hP9 := hP.sub (ws' := [(jo, .inr (10, [.ref tb, .ref jk, .ref jt, .ref jn, .ref ju, .ref jp, .ref jb, .ref ja, .ref jl, .ref jr, .int j10, .int (j11 + 1), .int j12, .int j13, .int j14, .int j15])), (jk, .inl (cI, 4001, .inl (upd kf (j11 + 1).toNatClampNeg 5))), (jt, .inl (cI, 4001, .inl (upd tf (j11 + 1).toNatClampNeg f11))), (jn, .inl (cI, 4001, .inl (upd nf (j11 + 1).toNatClampNeg (-1)))), (ju, .inl (cI, 4001, .inl (upd uf (j11 + 1).toNatClampNeg (-1)))), (jp, .inl (cI, 4001, .inl (upd pf (j11 + 1).toNatClampNeg 0))), (jb, .inl (cJJ, 4001, .inr (.inr (.inr (.inr (va_up bf (j11 + 1).toNatClampNeg none)))))), (ja, .inl (cJJ, 4001, .inr (.inr (.inr (.inr (va_up af (j11 + 1).toNatClampNeg none)))))), (a0, .inr (15, [.ref tx, .ref cd, .ref ca, .ref pl, .int f4, .int f5, .int f6, .int f7, .int f8, .int f9, .int f10, .int f11, .int f12, .int f13, .int f14, .int f15]))]) [0, 1, 2, 3, 4, 5, 6, 7, 8] rfl
    have hD9 := hD.sub (ws' := [(jo, .inr (10, [.ref tb, .ref jk, .ref jt, .ref jn, .ref ju, .ref jp, .ref jb, .ref ja, .ref jl, .ref jr, .int j10, .int (j11 + 1), .int j12, .int j13, .int j14, .int j15])), (jk, .inl (cI, 4001, .inl (upd kf (j11 + 1).toNatClampNeg 5))), (jt, .inl (cI, 4001, .inl (upd tf (j11 + 1).toNatClampNeg f11))), (jn, .inl (cI, 4001, .inl (upd nf (j11 + 1).toNatClampNeg (-1)))), (ju, .inl (cI, 4001, .inl (upd uf (j11 + 1).toNatClampNeg (-1)))), (jp, .inl (cI, 4001, .inl (upd pf (j11 + 1).toNatClampNeg 0))), (jb, .inl (cJJ, 4001, .inr (.inr (.inr (.inr (va_up bf (j11 + 1).toNatClampNeg none)))))), (ja, .inl (cJJ, 4001, .inr (.inr (.inr (.inr (va_up af (j11 + 1).toNatClampNeg none)))))), (a0, .inr (15, [.ref tx, .ref cd, .ref ca, .ref pl, .int f4, .int f5, .int f6, .int f7, .int f8, .int f9, .int f10, .int f11, .int f12, .int f13, .int f14, .int f15]))]) [0, 1, 2, 3, 4, 5, 6, 7, 8] (by decide) rfl
    have hK9 := hK.sub (tys' := [(cI, .int), (cJJ, .array .long)]) [0, 1] rfl
    have hw9 : ([(jo, .inr (10, [.ref tb, .ref jk, .ref jt, .ref jn, .ref ju, .ref jp, .ref jb, .ref ja, .ref jl, .ref jr, .int j10, .int (j11 + 1), .int j12, .int j13, .int j14, .int j15])), (jk, .inl (cI, 4001, .inl (upd kf (j11 + 1).toNatClampNeg 5))), (jt, .inl (cI, 4001, .inl (upd tf (j11 + 1).toNatClampNeg f11))), (jn, .inl (cI, 4001, .inl (upd nf (j11 + 1).toNatClampNeg (-1)))), (ju, .inl (cI, 4001, .inl (upd uf (j11 + 1).toNatClampNeg (-1)))), (jp, .inl (cI, 4001, .inl (upd pf (j11 + 1).toNatClampNeg 0))), (jb, .inl (cJJ, 4001, .inr (.inr (.inr (.inr (va_up bf (j11 + 1).toNatClampNeg none)))))), (ja, .inl (cJJ, 4001, .inr (.inr (.inr (.inr (va_up af (j11 + 1).toNatClampNeg none)))))), (a0, .inr (15, [.ref tx, .ref cd, .ref ca, .ref pl, .int f4, .int f5, .int f6, .int f7, .int f8, .int f9, .int f10, .int f11, .int f12, .int f13, .int f14, .int f15]))] : va_W) = [(jo, .inr (10, [.ref tb, .ref jk, .ref jt, .ref jn, .ref ju, .ref jp, .ref jb, .ref ja, .ref jl, .ref jr, .int j10, .int (if (f13 ≤ 0) then j11 else j11 + 1), .int j12, .int j13, .int j14, .int j15])), (jk, .inl (cI, 4001, .inl (if (f13 ≤ 0) then kf else upd kf (j11 + 1).toNatClampNeg 5))), (jt, .inl (cI, 4001, .inl (if (f13 ≤ 0) then tf else upd tf (j11 + 1).toNatClampNeg f11))), (jn, .inl (cI, 4001, .inl (if (f13 ≤ 0) then nf else upd nf (j11 + 1).toNatClampNeg (-1)))), (ju, .inl (cI, 4001, .inl (if (f13 ≤ 0) then uf else upd uf (j11 + 1).toNatClampNeg (-1)))), (jp, .inl (cI, 4001, .inl (if (f13 ≤ 0) then pf else upd pf (j11 + 1).toNatClampNeg 0))), (jb, .inl (cJJ, 4001, .inr (.inr (.inr (.inr (if (f13 ≤ 0) then bf else va_up bf (j11 + 1).toNatClampNeg none)))))), (ja, .inl (cJJ, 4001, .inr (.inr (.inr (.inr (if (f13 ≤ 0) then af else va_up af (j11 + 1).toNatClampNeg none)))))), (a0, .inr (15, [.ref tx, .ref cd, .ref ca, .ref pl, .int f4, .int f5, .int f6, .int f7, .int f8, .int f9, .int f10, .int f11, .int f12, .int f13, .int f14, .int f15]))] := by first | simp only [if_pos c_1] | simp only [if_neg c_1]
    rw [hw9] at hP9 hD9
    exact W.vret hx hb hr (fun t ht hW => ⟨⟨(), rfl, trivial, by rw [ht]; exact hP9, va_K.moved hW.alike hK9, hD9⟩, hS.F ht⟩) hS.2.2 dX5_commit_18
set_option maxHeartbeats 4000000 in
set_option maxRecDepth 100000 in
/-- Log.dropLoser(i) -/
theorem c_X5_dropLoser (l : Launch) (dC : Nat → ClassId) (dI : Nat → Nat → Nat) (sz : Nat) (jo tb : Nat) (jk jt jn ju jp jb ja jl jr : Nat) (j10 j11 j12 j13 j14 j15 : Int32) (cI : ClassId) (lf rf : Nat → Int32) (p0 : Int32) (h1 : vp_in p0 4) (h2 : vp_in (j10 - 1) 4) : Met l yX5_dropLoser wsX5_dropLoser ({ frames := 0, cells := 0, slots := 0, locals := 0 }) (va_Pc [.ref jo, .int p0] (fun U => U.heap.size = sz ∧ va_P (dC, dI) vwCl [(jo, .inr (10, [.ref tb, .ref jk, .ref jt, .ref jn, .ref ju, .ref jp, .ref jb, .ref ja, .ref jl, .ref jr, .int j10, .int j11, .int j12, .int j13, .int j14, .int j15])), (jl, .inl (cI, 4, .inl lf)), (jr, .inl (cI, 4, .inl rf))] U.heap ∧ va_K (dC, dI) vwCl [(cI, .int)] U ∧ va_D (fun _ => True) [(jo, .inr (10, [.ref tb, .ref jk, .ref jt, .ref jn, .ref ju, .ref jp, .ref jb, .ref ja, .ref jl, .ref jr, .int j10, .int j11, .int j12, .int j13, .int j14, .int j15])), (jl, .inl (cI, 4, .inl lf)), (jr, .inl (cI, 4, .inl rf))])) (va_Qv (fun (_ : Unit) => True) (fun (_ : Unit) (t : State) => va_P (dC, dI) vwCl [(jo, .inr (10, [.ref tb, .ref jk, .ref jt, .ref jn, .ref ju, .ref jp, .ref jb, .ref ja, .ref jl, .ref jr, .int (j10 - 1), .int j11, .int j12, .int j13, .int j14, .int j15])), (jl, .inl (cI, 4, .inl (upd lf p0.toNatClampNeg (lf (j10 - 1).toNatClampNeg)))), (jr, .inl (cI, 4, .inl (upd rf p0.toNatClampNeg (rf (j10 - 1).toNatClampNeg))))] t.heap ∧ va_K (dC, dI) vwCl [(cI, .int)] t ∧ va_D (va_A [(jo, .inr (10, [.ref tb, .ref jk, .ref jt, .ref jn, .ref ju, .ref jp, .ref jb, .ref ja, .ref jl, .ref jr, .int j10, .int j11, .int j12, .int j13, .int j14, .int j15])), (jl, .inl (cI, 4, .inl lf)), (jr, .inl (cI, 4, .inl rf))] sz) [(jo, .inr (10, [.ref tb, .ref jk, .ref jt, .ref jn, .ref ju, .ref jp, .ref jb, .ref ja, .ref jl, .ref jr, .int (j10 - 1), .int j11, .int j12, .int j13, .int j14, .int j15])), (jl, .inl (cI, 4, .inl (upd lf p0.toNatClampNeg (lf (j10 - 1).toNatClampNeg)))), (jr, .inl (cI, 4, .inl (upd rf p0.toNatClampNeg (rf (j10 - 1).toNatClampNeg))))]) (va_A [(jo, .inr (10, [.ref tb, .ref jk, .ref jt, .ref jn, .ref ju, .ref jp, .ref jb, .ref ja, .ref jl, .ref jr, .int j10, .int j11, .int j12, .int j13, .int j14, .int j15])), (jl, .inl (cI, 4, .inl lf)), (jr, .inl (cI, 4, .inl rf))] sz)) 0 0 (va_A [(jo, .inr (10, [.ref tb, .ref jk, .ref jt, .ref jn, .ref ju, .ref jp, .ref jb, .ref ja, .ref jl, .ref jr, .int j10, .int j11, .int j12, .int j13, .int j14, .int j15])), (jl, .inl (cI, 4, .inl lf)), (jr, .inl (cI, 4, .inl rf))] sz) := by
  refine Met.ofW (cc := cX5_dropLoser) (maxL := 2) (ret := none) (by decide) rfl ?_
  intro p e s m args below meth c s₁ B hml hv
  obtain ⟨rfl, hsz, hP, hK, hD0⟩ := hv
  have hx := B.exec
  have hb := B.bytes
  have hr := B.returns
  have hts := atoms_spec (ws := wsX5_dropLoser) B.pre
  have hown : s.vm.findClass RX5 = some m.cls := findClass_of_methodNamed B.named
  have hlocks := B.notSynchronized
  subst hsz
  have hD := hD0.self (sz := s.heap.size)
  generalize hAe : va_A [(jo, .inr (10, [.ref tb, .ref jk, .ref jt, .ref jn, .ref ju, .ref jp, .ref jb, .ref ja, .ref jl, .ref jr, .int j10, .int j11, .int j12, .int j13, .int j14, .int j15])), (jl, .inl (cI, 4, .inl lf)), (jr, .inl (cI, 4, .inl rf))] s.heap.size = A at hD ⊢
  have hA : ∀ q : Nat, s.heap.size ≤ q → A q := fun q h => by rw [← hAe]; exact Or.inr h
  have hS : va_S A s.heap s.heap [] := va_S.rf
  have hP : va_P (dC, dI) vwCl [(jo, .inr (10, [.ref tb, .ref jk, .ref jt, .ref jn, .ref ju, .ref jp, .ref jb, .ref ja, .ref jl, .ref jr, .int j10, .int j11, .int j12, .int j13, .int j14, .int j15])), (jl, .inl (cI, 4, .inl lf)), (jr, .inl (cI, 4, .inl rf))] s.heap := hP
  have hl := lv_entry ([.ref jo, .int p0]) (n := 2) (Nat.le_of_ble_eq_true rfl)
  rw [lg_entry_eq]
  generalize (lg_sl ([.ref jo, .int p0]) ++ List.replicate (2 - (lg_sl ([.ref jo, .int p0])).length) Slot.unset).toArray = ls at hl ⊢
  have hl : lv_has ls 2 [(0, .ref jo), (1, .int p0)] := hl
  refine lv_aload_n hx hb dX5_dropLoser_0 rfl (lv_at hl 0 rfl) ?_
  refine lv_dup hx hb dX5_dropLoser_1 rfl ?_
  refine va_get (D := (dC, dI)) (ci := 10) (v := .int j10) (C := RX5) (T := TX5) (N := 16) hx hb hts (by decide +kernel) hown hK hP 0 rfl rfl 10 (by decide) (hts (.fieldLink RX5 99 "QueryHall$Log" "losers" "I") (by decide +kernel)) (fun _ h9 => h9) rfl dX5_dropLoser_2 ?_
  refine lv_iconst (v := 1) hx hb dX5_dropLoser_5 (by decide) ?_
  refine lv_isub hx hb dX5_dropLoser_6 ?_
  refine lv_topi (fun x_1 ex_1 => ?_)
  refine va_put (D := (dC, dI)) (ci := 10) (v := .int x_1) (ty := .int) (C := RX5) (T := TX5) (N := 16) hx hb hts (by decide +kernel) tyX5 tyX5_ok nmX5 hown hK hP hD hS 0 rfl rfl 10 (by decide) (hts (.fieldLink RX5 99 "QueryHall$Log" "losers" "I") (by decide +kernel)) (fun _ h9 => h9) rfl (by decide +kernel) rfl rfl (Nat.le_of_ble_eq_true rfl) dX5_dropLoser_7 (fun H locs hP hD hS => ?_)
  have hP : va_P (dC, dI) vwCl [(jo, .inr (10, [.ref tb, .ref jk, .ref jt, .ref jn, .ref ju, .ref jp, .ref jb, .ref ja, .ref jl, .ref jr, .int x_1, .int j11, .int j12, .int j13, .int j14, .int j15])), (jl, .inl (cI, 4, .inl lf)), (jr, .inl (cI, 4, .inl rf))] H := hP
  have hD : va_D A [(jo, .inr (10, [.ref tb, .ref jk, .ref jt, .ref jn, .ref ju, .ref jp, .ref jb, .ref ja, .ref jl, .ref jr, .int x_1, .int j11, .int j12, .int j13, .int j14, .int j15])), (jl, .inl (cI, 4, .inl lf)), (jr, .inl (cI, 4, .inl rf))] := hD
  refine lv_aload_n hx hb dX5_dropLoser_10 rfl (lv_at hl 0 rfl) ?_
  refine va_get (D := (dC, dI)) (ci := 10) (v := .ref jl) (C := RX5) (T := TX5) (N := 16) hx hb hts (by decide +kernel) hown hK hP 0 rfl rfl 8 (by decide) (hts (.fieldLink RX5 36 "QueryHall$Log" "loserNumbers" "[I") (by decide +kernel)) (fun _ h9 => h9) rfl dX5_dropLoser_11 ?_
  refine lv_iload_n hx hb dX5_dropLoser_14 rfl (lv_at hl 1 rfl) ?_
  refine lv_aload_n hx hb dX5_dropLoser_15 rfl (lv_at hl 0 rfl) ?_
  refine va_get (D := (dC, dI)) (ci := 10) (v := .ref jl) (C := RX5) (T := TX5) (N := 16) hx hb hts (by decide +kernel) hown hK hP 0 rfl rfl 8 (by decide) (hts (.fieldLink RX5 36 "QueryHall$Log" "loserNumbers" "[I") (by decide +kernel)) (fun _ h9 => h9) rfl dX5_dropLoser_16 ?_
  refine lv_aload_n hx hb dX5_dropLoser_19 rfl (lv_at hl 0 rfl) ?_
  refine va_get (D := (dC, dI)) (ci := 10) (v := .int x_1) (C := RX5) (T := TX5) (N := 16) hx hb hts (by decide +kernel) hown hK hP 0 rfl rfl 10 (by decide) (hts (.fieldLink RX5 99 "QueryHall$Log" "losers" "I") (by decide +kernel)) (fun _ h9 => h9) rfl dX5_dropLoser_20 ?_
  refine va_iald hx hb hK hP 1 0 rfl rfl (by subst_vars; exact h2) dX5_dropLoser_23 ?_
  refine va_iast hx hb hK hP hD hS 1 0 rfl rfl h1 dX5_dropLoser_24 (fun H locs hP hD hS => ?_)
  have hP : va_P (dC, dI) vwCl [(jo, .inr (10, [.ref tb, .ref jk, .ref jt, .ref jn, .ref ju, .ref jp, .ref jb, .ref ja, .ref jl, .ref jr, .int x_1, .int j11, .int j12, .int j13, .int j14, .int j15])), (jl, .inl (cI, 4, .inl (upd lf p0.toNatClampNeg (lf x_1.toNatClampNeg)))), (jr, .inl (cI, 4, .inl rf))] H := hP
  have hD : va_D A [(jo, .inr (10, [.ref tb, .ref jk, .ref jt, .ref jn, .ref ju, .ref jp, .ref jb, .ref ja, .ref jl, .ref jr, .int x_1, .int j11, .int j12, .int j13, .int j14, .int j15])), (jl, .inl (cI, 4, .inl (upd lf p0.toNatClampNeg (lf x_1.toNatClampNeg)))), (jr, .inl (cI, 4, .inl rf))] := hD
  refine lv_aload_n hx hb dX5_dropLoser_25 rfl (lv_at hl 0 rfl) ?_
  refine va_get (D := (dC, dI)) (ci := 10) (v := .ref jr) (C := RX5) (T := TX5) (N := 16) hx hb hts (by decide +kernel) hown hK hP 0 rfl rfl 9 (by decide) (hts (.fieldLink RX5 39 "QueryHall$Log" "loserRecords" "[I") (by decide +kernel)) (fun _ h9 => h9) rfl dX5_dropLoser_26 ?_
  refine lv_iload_n hx hb dX5_dropLoser_29 rfl (lv_at hl 1 rfl) ?_
  refine lv_aload_n hx hb dX5_dropLoser_30 rfl (lv_at hl 0 rfl) ?_
  refine va_get (D := (dC, dI)) (ci := 10) (v := .ref jr) (C := RX5) (T := TX5) (N := 16) hx hb hts (by decide +kernel) hown hK hP 0 rfl rfl 9 (by decide) (hts (.fieldLink RX5 39 "QueryHall$Log" "loserRecords" "[I") (by decide +kernel)) (fun _ h9 => h9) rfl dX5_dropLoser_31 ?_
  refine lv_aload_n hx hb dX5_dropLoser_34 rfl (lv_at hl 0 rfl) ?_
  refine va_get (D := (dC, dI)) (ci := 10) (v := .int x_1) (C := RX5) (T := TX5) (N := 16) hx hb hts (by decide +kernel) hown hK hP 0 rfl rfl 10 (by decide) (hts (.fieldLink RX5 99 "QueryHall$Log" "losers" "I") (by decide +kernel)) (fun _ h9 => h9) rfl dX5_dropLoser_35 ?_
  refine va_iald hx hb hK hP 2 0 rfl rfl (by subst_vars; exact h2) dX5_dropLoser_38 ?_
  refine va_iast hx hb hK hP hD hS 2 0 rfl rfl h1 dX5_dropLoser_39 (fun H locs hP hD hS => ?_)
  have hP : va_P (dC, dI) vwCl [(jo, .inr (10, [.ref tb, .ref jk, .ref jt, .ref jn, .ref ju, .ref jp, .ref jb, .ref ja, .ref jl, .ref jr, .int x_1, .int j11, .int j12, .int j13, .int j14, .int j15])), (jl, .inl (cI, 4, .inl (upd lf p0.toNatClampNeg (lf x_1.toNatClampNeg)))), (jr, .inl (cI, 4, .inl (upd rf p0.toNatClampNeg (rf x_1.toNatClampNeg))))] H := hP
  have hD : va_D A [(jo, .inr (10, [.ref tb, .ref jk, .ref jt, .ref jn, .ref ju, .ref jp, .ref jb, .ref ja, .ref jl, .ref jr, .int x_1, .int j11, .int j12, .int j13, .int j14, .int j15])), (jl, .inl (cI, 4, .inl (upd lf p0.toNatClampNeg (lf x_1.toNatClampNeg)))), (jr, .inl (cI, 4, .inl (upd rf p0.toNatClampNeg (rf x_1.toNatClampNeg))))] := hD
  have hP9 := hP.sub (ws' := [(jo, .inr (10, [.ref tb, .ref jk, .ref jt, .ref jn, .ref ju, .ref jp, .ref jb, .ref ja, .ref jl, .ref jr, .int x_1, .int j11, .int j12, .int j13, .int j14, .int j15])), (jl, .inl (cI, 4, .inl (upd lf p0.toNatClampNeg (lf x_1.toNatClampNeg)))), (jr, .inl (cI, 4, .inl (upd rf p0.toNatClampNeg (rf x_1.toNatClampNeg))))]) [0, 1, 2] rfl
  have hD9 := hD.sub (ws' := [(jo, .inr (10, [.ref tb, .ref jk, .ref jt, .ref jn, .ref ju, .ref jp, .ref jb, .ref ja, .ref jl, .ref jr, .int x_1, .int j11, .int j12, .int j13, .int j14, .int j15])), (jl, .inl (cI, 4, .inl (upd lf p0.toNatClampNeg (lf x_1.toNatClampNeg)))), (jr, .inl (cI, 4, .inl (upd rf p0.toNatClampNeg (rf x_1.toNatClampNeg))))]) [0, 1, 2] (by decide) rfl
  have hK9 := hK.sub (tys' := [(cI, .int)]) [0] rfl
  have hw9 : ([(jo, .inr (10, [.ref tb, .ref jk, .ref jt, .ref jn, .ref ju, .ref jp, .ref jb, .ref ja, .ref jl, .ref jr, .int x_1, .int j11, .int j12, .int j13, .int j14, .int j15])), (jl, .inl (cI, 4, .inl (upd lf p0.toNatClampNeg (lf x_1.toNatClampNeg)))), (jr, .inl (cI, 4, .inl (upd rf p0.toNatClampNeg (rf x_1.toNatClampNeg))))] : va_W) = [(jo, .inr (10, [.ref tb, .ref jk, .ref jt, .ref jn, .ref ju, .ref jp, .ref jb, .ref ja, .ref jl, .ref jr, .int (j10 - 1), .int j11, .int j12, .int j13, .int j14, .int j15])), (jl, .inl (cI, 4, .inl (upd lf p0.toNatClampNeg (lf (j10 - 1).toNatClampNeg)))), (jr, .inl (cI, 4, .inl (upd rf p0.toNatClampNeg (rf (j10 - 1).toNatClampNeg))))] := by subst_vars; rfl
  rw [hw9] at hP9 hD9
  exact W.vret hx hb hr (fun t ht hW => ⟨⟨(), rfl, trivial, by rw [ht]; exact hP9, va_K.moved hW.alike hK9, hD9⟩, hS.F ht⟩) hS.2.2 dX5_dropLoser_40
set_option maxHeartbeats 4000000 in
set_option maxRecDepth 100000 in
/-- Log.loserOf(transaction) -/
theorem c_X5_loserOf (l : Launch) (dC : Nat → ClassId) (dI : Nat → Nat → Nat) (sz : Nat) (jo tb : Nat) (jk jt jn ju jp jb ja jl jr : Nat) (j10 j11 j12 j13 j14 j15 : Int32) (cI : ClassId) (lf : Nat → Int32) (nl : Nat) (p0 : Int32) (hnl : j10 = nI nl ∧ nl ≤ 4) : Met l yX5_loserOf wsX5_loserOf ({ frames := 0, cells := 0, slots := 0, locals := 0 }) (va_Pc [.ref jo, .int p0] (fun U => U.heap.size = sz ∧ va_P (dC, dI) vwCl [(jo, .inr (10, [.ref tb, .ref jk, .ref jt, .ref jn, .ref ju, .ref jp, .ref jb, .ref ja, .ref jl, .ref jr, .int j10, .int j11, .int j12, .int j13, .int j14, .int j15])), (jl, .inl (cI, 4, .inl lf))] U.heap ∧ va_K (dC, dI) vwCl [(cI, .int)] U ∧ va_D (fun _ => True) [(jo, .inr (10, [.ref tb, .ref jk, .ref jt, .ref jn, .ref ju, .ref jp, .ref jb, .ref ja, .ref jl, .ref jr, .int j10, .int j11, .int j12, .int j13, .int j14, .int j15])), (jl, .inl (cI, 4, .inl lf))])) (va_Qi (fun (r : Int32) (_ : Unit) => r = qh_ix lf p0 nl 0) (fun (_ : Unit) (t : State) => va_P (dC, dI) vwCl [(jo, .inr (10, [.ref tb, .ref jk, .ref jt, .ref jn, .ref ju, .ref jp, .ref jb, .ref ja, .ref jl, .ref jr, .int j10, .int j11, .int j12, .int j13, .int j14, .int j15])), (jl, .inl (cI, 4, .inl lf))] t.heap ∧ va_K (dC, dI) vwCl [(cI, .int)] t ∧ va_D (va_A [(jo, .inr (10, [.ref tb, .ref jk, .ref jt, .ref jn, .ref ju, .ref jp, .ref jb, .ref ja, .ref jl, .ref jr, .int j10, .int j11, .int j12, .int j13, .int j14, .int j15])), (jl, .inl (cI, 4, .inl lf))] sz) [(jo, .inr (10, [.ref tb, .ref jk, .ref jt, .ref jn, .ref ju, .ref jp, .ref jb, .ref ja, .ref jl, .ref jr, .int j10, .int j11, .int j12, .int j13, .int j14, .int j15])), (jl, .inl (cI, 4, .inl lf))]) (va_A [(jo, .inr (10, [.ref tb, .ref jk, .ref jt, .ref jn, .ref ju, .ref jp, .ref jb, .ref ja, .ref jl, .ref jr, .int j10, .int j11, .int j12, .int j13, .int j14, .int j15])), (jl, .inl (cI, 4, .inl lf))] sz)) 0 0 (va_A [(jo, .inr (10, [.ref tb, .ref jk, .ref jt, .ref jn, .ref ju, .ref jp, .ref jb, .ref ja, .ref jl, .ref jr, .int j10, .int j11, .int j12, .int j13, .int j14, .int j15])), (jl, .inl (cI, 4, .inl lf))] sz) := by
  refine Met.ofW (cc := cX5_loserOf) (maxL := 3) (ret := (some .int)) (by decide) rfl ?_
  intro p e s m args below meth c s₁ B hml hv
  obtain ⟨rfl, hsz, hP, hK, hD0⟩ := hv
  have hx := B.exec
  have hb := B.bytes
  have hr := B.returns
  have hts := atoms_spec (ws := wsX5_loserOf) B.pre
  have hown : s.vm.findClass RX5 = some m.cls := findClass_of_methodNamed B.named
  have hlocks := B.notSynchronized
  subst hsz
  have hD := hD0.self (sz := s.heap.size)
  generalize hAe : va_A [(jo, .inr (10, [.ref tb, .ref jk, .ref jt, .ref jn, .ref ju, .ref jp, .ref jb, .ref ja, .ref jl, .ref jr, .int j10, .int j11, .int j12, .int j13, .int j14, .int j15])), (jl, .inl (cI, 4, .inl lf))] s.heap.size = A at hD ⊢
  have hA : ∀ q : Nat, s.heap.size ≤ q → A q := fun q h => by rw [← hAe]; exact Or.inr h
  have hS : va_S A s.heap s.heap [] := va_S.rf
  have hP : va_P (dC, dI) vwCl [(jo, .inr (10, [.ref tb, .ref jk, .ref jt, .ref jn, .ref ju, .ref jp, .ref jb, .ref ja, .ref jl, .ref jr, .int j10, .int j11, .int j12, .int j13, .int j14, .int j15])), (jl, .inl (cI, 4, .inl lf))] s.heap := hP
  have hl := lv_entry ([.ref jo, .int p0]) (n := 3) (Nat.le_of_ble_eq_true rfl)
  rw [lg_entry_eq]
  generalize (lg_sl ([.ref jo, .int p0]) ++ List.replicate (3 - (lg_sl ([.ref jo, .int p0])).length) Slot.unset).toArray = ls at hl ⊢
  have hl : lv_has ls 3 [(0, .ref jo), (1, .int p0)] := hl
  refine lv_iconst (v := 0) hx hb dX5_loserOf_0 (by decide) ?_
  refine lv_istore_n (lv' := [(2, .int 0), (0, .ref jo), (1, .int p0)]) hx hb dX5_loserOf_1 rfl hl (by decide) rfl (fun ls hl => ?_)
  have hP0 : va_P (dC, dI) vwCl [(jo, .inr (10, [.ref tb, .ref jk, .ref jt, .ref jn, .ref ju, .ref jp, .ref jb, .ref ja, .ref jl, .ref jr, .int j10, .int j11, .int j12, .int j13, .int j14, .int j15])), (jl, .inl (cI, 4, .inl lf))] s.heap := by
    have hw9 : ([(jo, .inr (10, [.ref tb, .ref jk, .ref jt, .ref jn, .ref ju, .ref jp, .ref jb, .ref ja, .ref jl, .ref jr, .int j10, .int j11, .int j12, .int j13, .int j14, .int j15])), (jl, .inl (cI, 4, .inl lf))] : va_W) = [(jo, .inr (10, [.ref tb, .ref jk, .ref jt, .ref jn, .ref ju, .ref jp, .ref jb, .ref ja, .ref jl, .ref jr, .int j10, .int j11, .int j12, .int j13, .int j14, .int j15])), (jl, .inl (cI, 4, .inl lf))] := by rfl
    rw [← hw9]; exact hP
  have hD0 : va_D A [(jo, .inr (10, [.ref tb, .ref jk, .ref jt, .ref jn, .ref ju, .ref jp, .ref jb, .ref ja, .ref jl, .ref jr, .int j10, .int j11, .int j12, .int j13, .int j14, .int j15])), (jl, .inl (cI, 4, .inl lf))] := by
    have hw9 : ([(jo, .inr (10, [.ref tb, .ref jk, .ref jt, .ref jn, .ref ju, .ref jp, .ref jb, .ref ja, .ref jl, .ref jr, .int j10, .int j11, .int j12, .int j13, .int j14, .int j15])), (jl, .inl (cI, 4, .inl lf))] : va_W) = [(jo, .inr (10, [.ref tb, .ref jk, .ref jt, .ref jn, .ref ju, .ref jp, .ref jb, .ref ja, .ref jl, .ref jr, .int j10, .int j11, .int j12, .int j13, .int j14, .int j15])), (jl, .inl (cI, 4, .inl lf))] := by rfl
    rw [← hw9]; exact hD
  have hl0 := lv_sub hl (l' := [(0, .ref jo), (1, .int p0), (2, .int 0)]) [1, 2, 0] rfl
  have hl1 : lv_has ls 3 [(0, .ref jo), (1, .int p0), (2, .int (nI 0))] := by
    have hw9 : ([(0, .ref jo), (1, .int p0), (2, .int 0)] : List (Nat × Value)) = [(0, .ref jo), (1, .int p0), (2, .int (nI 0))] := by rw [nI_0]
    rw [← hw9]; exact hl0
  refine qh_while (pc := 2) (st := []) (fun μ H locs ls => ∃ (k : Nat), (k ≤ nl ∧ qh_ix lf p0 nl 0 = qh_ix lf p0 (nl - k) k) ∧ μ = nl - k ∧ va_P (dC, dI) vwCl [(jo, .inr (10, [.ref tb, .ref jk, .ref jt, .ref jn, .ref ju, .ref jp, .ref jb, .ref ja, .ref jl, .ref jr, .int j10, .int j11, .int j12, .int j13, .int j14, .int j15])), (jl, .inl (cI, 4, .inl lf))] H ∧ va_D A [(jo, .inr (10, [.ref tb, .ref jk, .ref jt, .ref jn, .ref ju, .ref jp, .ref jb, .ref ja, .ref jl, .ref jr, .int j10, .int j11, .int j12, .int j13, .int j14, .int j15])), (jl, .inl (cI, 4, .inl lf))] ∧ va_S A s.heap H locs ∧ lv_has ls 3 [(0, .ref jo), (1, .int p0), (2, .int (nI k))]) (fun μ H locs ls hI ih => ?_) _ ⟨0, ⟨Nat.zero_le nl, rfl⟩, rfl, hP0, hD0, hS, hl1⟩
  clear hP0 hD0 hl0 hl1 hP hD hS hl
  obtain ⟨k, hcnd, hμ, hP, hD, hS, hl⟩ := hI
  subst hμ
  refine lv_iload_n hx hb dX5_loserOf_2 rfl (lv_at hl 2 rfl) ?_
  refine lv_aload_n hx hb dX5_loserOf_3 rfl (lv_at hl 0 rfl) ?_
  refine va_get (D := (dC, dI)) (ci := 10) (v := .int j10) (C := RX5) (T := TX5) (N := 16) hx hb hts (by decide +kernel) hown hK hP 0 rfl rfl 10 (by decide) (hts (.fieldLink RX5 99 "QueryHall$Log" "losers" "I") (by decide +kernel)) (fun _ h9 => h9) rfl dX5_loserOf_4 ?_
  refine lv_icmp_ge (tgt := 28) hx hb dX5_loserOf_7 (by decide) (fun c_1 => ?_) (fun c_1 => ?_)
  · skip
    have hkn : k = nl := by
      have hc := hcnd.1
      rcases Nat.lt_or_ge k nl with q | q
      · exact absurd c_1 (by rw [hnl.1]; exact nI_ge q (by omega))
      · omega
    refine lv_iconst (v := -1) hx hb dX5_loserOf_28 (by decide) ?_
    have hP9 := hP.sub (ws' := [(jo, .inr (10, [.ref tb, .ref jk, .ref jt, .ref jn, .ref ju, .ref jp, .ref jb, .ref ja, .ref jl, .ref jr, .int j10, .int j11, .int j12, .int j13, .int j14, .int j15])), (jl, .inl (cI, 4, .inl lf))]) [0, 1] rfl
    have hD9 := hD.sub (ws' := [(jo, .inr (10, [.ref tb, .ref jk, .ref jt, .ref jn, .ref ju, .ref jp, .ref jb, .ref ja, .ref jl, .ref jr, .int j10, .int j11, .int j12, .int j13, .int j14, .int j15])), (jl, .inl (cI, 4, .inl lf))]) [0, 1] (by decide) rfl
    have hK9 := hK.sub (tys' := [(cI, .int)]) [0] rfl
    exact W.iret (v := -1) hx hb hr (fun t ht hW => ⟨⟨-1, (), rfl, (by show (_ : Int32) = _; rw [hcnd.2, hkn, Nat.sub_self]; rfl), by rw [ht]; exact hP9, va_K.moved hW.alike hK9, hD9⟩, hS.F ht⟩) hS.2.2 dX5_loserOf_29
  · skip
    have hlt : k < nl := by
      rcases Nat.lt_or_ge k nl with q | q
      · exact q
      · exact absurd (by rw [hnl.1]; exact nI_le q (by omega)) c_1
    refine lv_aload_n hx hb dX5_loserOf_10 rfl (lv_at hl 0 rfl) ?_
    refine va_get (D := (dC, dI)) (ci := 10) (v := .ref jl) (C := RX5) (T := TX5) (N := 16) hx hb hts (by decide +kernel) hown hK hP 0 rfl rfl 8 (by decide) (hts (.fieldLink RX5 36 "QueryHall$Log" "loserNumbers" "[I") (by decide +kernel)) (fun _ h9 => h9) rfl dX5_loserOf_11 ?_
    refine lv_iload_n hx hb dX5_loserOf_14 rfl (lv_at hl 2 rfl) ?_
    refine va_iald hx hb hK hP 1 0 rfl rfl (vp_in_nI (Nat.lt_of_lt_of_le hlt hnl.2) (by decide)) dX5_loserOf_15 ?_
    refine lv_iload_n hx hb dX5_loserOf_16 rfl (lv_at hl 1 rfl) ?_
    refine lv_icmp_ne (tgt := 22) hx hb dX5_loserOf_17 (by decide) (fun c_2 => ?_) (fun c_2 => ?_)
    · skip
      obtain ⟨x_3, ex_3⟩ : ∃ y : Int32, y = (nI k) + 1 := ⟨_, rfl⟩
      refine lv_iinc (v := x_3) (lv' := [(2, .int x_3), (0, .ref jo), (1, .int p0)]) hx hb dX5_loserOf_22 hl (k := 2) rfl (by rw [ex_3]; rfl) (by decide) rfl (fun ls hl => ?_)
      refine lv_goto (tgt := 2) hx hb dX5_loserOf_25 (by decide) ?_
      refine ih _ _ _ _ (by omega) ⟨(k + 1), ⟨by omega, hcnd.2.trans (qh_ix_on hlt (by have h9 := c_2; rw [nI_clamp (show k < 2 ^ 31 by omega)] at h9; exact h9))⟩, rfl, ?_, ?_, hS, ?_⟩
      · have hw9 : ([(jo, .inr (10, [.ref tb, .ref jk, .ref jt, .ref jn, .ref ju, .ref jp, .ref jb, .ref ja, .ref jl, .ref jr, .int j10, .int j11, .int j12, .int j13, .int j14, .int j15])), (jl, .inl (cI, 4, .inl lf))] : va_W) = [(jo, .inr (10, [.ref tb, .ref jk, .ref jt, .ref jn, .ref ju, .ref jp, .ref jb, .ref ja, .ref jl, .ref jr, .int j10, .int j11, .int j12, .int j13, .int j14, .int j15])), (jl, .inl (cI, 4, .inl lf))] := by rfl
        rw [← hw9]; exact hP
      · have hw9 : ([(jo, .inr (10, [.ref tb, .ref jk, .ref jt, .ref jn, .ref ju, .ref jp, .ref jb, .ref ja, .ref jl, .ref jr, .int j10, .int j11, .int j12, .int j13, .int j14, .int j15])), (jl, .inl (cI, 4, .inl lf))] : va_W) = [(jo, .inr (10, [.ref tb, .ref jk, .ref jt, .ref jn, .ref ju, .ref jp, .ref jb, .ref ja, .ref jl, .ref jr, .int j10, .int j11, .int j12, .int j13, .int j14, .int j15])), (jl, .inl (cI, 4, .inl lf))] := by rfl
        rw [← hw9]; exact hD
      · have hl := lv_sub hl [1, 2, 0] rfl
        have hw9 : ([(0, .ref jo), (1, .int p0), (2, .int x_3)] : List (Nat × Value)) = [(0, .ref jo), (1, .int p0), (2, .int (nI ((k + 1))))] := by rw [ex_3, nI_1]
        rw [← hw9]; exact hl
    · skip
      refine lv_iload_n hx hb dX5_loserOf_20 rfl (lv_at hl 2 rfl) ?_
      have hP9 := hP.sub (ws' := [(jo, .inr (10, [.ref tb, .ref jk, .ref jt, .ref jn, .ref ju, .ref jp, .ref jb, .ref ja, .ref jl, .ref jr, .int j10, .int j11, .int j12, .int j13, .int j14, .int j15])), (jl, .inl (cI, 4, .inl lf))]) [0, 1] rfl
      have hD9 := hD.sub (ws' := [(jo, .inr (10, [.ref tb, .ref jk, .ref jt, .ref jn, .ref ju, .ref jp, .ref jb, .ref ja, .ref jl, .ref jr, .int j10, .int j11, .int j12, .int j13, .int j14, .int j15])), (jl, .inl (cI, 4, .inl lf))]) [0, 1] (by decide) rfl
      have hK9 := hK.sub (tys' := [(cI, .int)]) [0] rfl
      exact W.iret (v := nI k) hx hb hr (fun t ht hW => ⟨⟨nI k, (), rfl, (by show (_ : Int32) = _; rw [hcnd.2]; exact (qh_ix_at hlt (by have h9 := c_2; rw [nI_clamp (show k < 2 ^ 31 by omega)] at h9; exact h9)).symm), by rw [ht]; exact hP9, va_K.moved hW.alike hK9, hD9⟩, hS.F ht⟩) hS.2.2 dX5_loserOf_21
