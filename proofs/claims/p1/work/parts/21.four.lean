abbrev cX12_reserve : ByteArray := prog_1_method_42_code
def yX12_reserve : MethodName := ⟨RX12, "reserve", "()I"⟩
def wsX12_reserve : List Cond := .code yX12_reserve cX12_reserve 3 (some .int) :: ([.fieldLink RX12 11 "QueryHall" "sessions" "[LQueryHall$Session;", .fieldLink RX12 250 "QueryHall$Session" "begin" "I", .fieldLink RX12 475 "QueryHall$Session" "openRecords" "I"] ++ wsX120 ++ wsX100)
theorem dX12_reserve_0 : decode cX12_reserve 0 = .ok (.iconst 0, 1) := by decide +kernel
theorem dX12_reserve_1 : decode cX12_reserve 1 = .ok (.istore_n 1, 1) := by decide +kernel
theorem dX12_reserve_2 : decode cX12_reserve 2 = .ok (.iconst 0, 1) := by decide +kernel
theorem dX12_reserve_3 : decode cX12_reserve 3 = .ok (.istore_n 2, 1) := by decide +kernel
theorem dX12_reserve_4 : decode cX12_reserve 4 = .ok (.iload_n 2, 1) := by decide +kernel
theorem dX12_reserve_5 : decode cX12_reserve 5 = .ok (.iconst 4, 1) := by decide +kernel
theorem dX12_reserve_6 : decode cX12_reserve 6 = .ok (.if_icmp .ge 39, 3) := by decide +kernel
theorem dX12_reserve_9 : decode cX12_reserve 9 = .ok (.iload_n 1, 1) := by decide +kernel
theorem dX12_reserve_10 : decode cX12_reserve 10 = .ok (.aload_n 0, 1) := by decide +kernel
theorem dX12_reserve_11 : decode cX12_reserve 11 = .ok (.getfield 11, 3) := by decide +kernel
theorem dX12_reserve_14 : decode cX12_reserve 14 = .ok (.iload_n 2, 1) := by decide +kernel
theorem dX12_reserve_15 : decode cX12_reserve 15 = .ok (.aaload, 1) := by decide +kernel
theorem dX12_reserve_16 : decode cX12_reserve 16 = .ok (.getfield 250, 3) := by decide +kernel
theorem dX12_reserve_19 : decode cX12_reserve 19 = .ok (.ifCond .le 17, 3) := by decide +kernel
theorem dX12_reserve_22 : decode cX12_reserve 22 = .ok (.iconst 1, 1) := by decide +kernel
theorem dX12_reserve_23 : decode cX12_reserve 23 = .ok (.aload_n 0, 1) := by decide +kernel
theorem dX12_reserve_24 : decode cX12_reserve 24 = .ok (.getfield 11, 3) := by decide +kernel
theorem dX12_reserve_27 : decode cX12_reserve 27 = .ok (.iload_n 2, 1) := by decide +kernel
theorem dX12_reserve_28 : decode cX12_reserve 28 = .ok (.aaload, 1) := by decide +kernel
theorem dX12_reserve_29 : decode cX12_reserve 29 = .ok (.getfield 475, 3) := by decide +kernel
theorem dX12_reserve_32 : decode cX12_reserve 32 = .ok (.iadd, 1) := by decide +kernel
theorem dX12_reserve_33 : decode cX12_reserve 33 = .ok (.goto 4, 3) := by decide +kernel
theorem dX12_reserve_36 : decode cX12_reserve 36 = .ok (.iconst 0, 1) := by decide +kernel
theorem dX12_reserve_37 : decode cX12_reserve 37 = .ok (.iadd, 1) := by decide +kernel
theorem dX12_reserve_38 : decode cX12_reserve 38 = .ok (.istore_n 1, 1) := by decide +kernel
theorem dX12_reserve_39 : decode cX12_reserve 39 = .ok (.iinc 2 1, 3) := by decide +kernel
theorem dX12_reserve_42 : decode cX12_reserve 42 = .ok (.goto (-38), 3) := by decide +kernel
theorem dX12_reserve_45 : decode cX12_reserve 45 = .ok (.iload_n 1, 1) := by decide +kernel
theorem dX12_reserve_46 : decode cX12_reserve 46 = .ok (.ireturn, 1) := by decide +kernel
set_option maxHeartbeats 4000000 in
set_option maxRecDepth 100000 in
/-- reserve() -/
theorem c_X12_reserve (l : Launch) (dC : Nat → ClassId) (dI : Nat → Nat → Nat) (sz : Nat) (h0 ss tb pa ck ev pn lk jo orw nrw : Nat) (g10 g11 g12 g13 g14 g15 : Int32) (a0 tx0 cd0 ca0 pl0 : Nat) (f4_0 f5_0 f6_0 f7_0 f8_0 f9_0 f10_0 f11_0 f12_0 f13_0 f14_0 f15_0 : Int32) (a1 tx1 cd1 ca1 pl1 : Nat) (f4_1 f5_1 f6_1 f7_1 f8_1 f9_1 f10_1 f11_1 f12_1 f13_1 f14_1 f15_1 : Int32) (a2 tx2 cd2 ca2 pl2 : Nat) (f4_2 f5_2 f6_2 f7_2 f8_2 f9_2 f10_2 f11_2 f12_2 f13_2 f14_2 f15_2 : Int32) (a3 tx3 cd3 ca3 pl3 : Nat) (f4_3 f5_3 f6_3 f7_3 f8_3 f9_3 f10_3 f11_3 f12_3 f13_3 f14_3 f15_3 : Int32) (cSs : ClassId) (sf : Nat → Option Nat) (hs0 : sf 0 = some a0) (hs1 : sf 1 = some a1) (hs2 : sf 2 = some a2) (hs3 : sf 3 = some a3) : Met l yX12_reserve wsX12_reserve ({ frames := 0, cells := 0, slots := 0, locals := 0 }) (va_Pc [.ref h0] (fun U => U.heap.size = sz ∧ va_P (dC, dI) vwCl [(h0, .inr (17, [.ref ss, .ref tb, .ref pa, .ref ck, .ref ev, .ref pn, .ref lk, .ref jo, .ref orw, .ref nrw, .int g10, .int g11, .int g12, .int g13, .int g14, .int g15])), (ss, .inl (cSs, 4, .inr (.inr (.inr (.inr sf))))), (a0, .inr (15, [.ref tx0, .ref cd0, .ref ca0, .ref pl0, .int f4_0, .int f5_0, .int f6_0, .int f7_0, .int f8_0, .int f9_0, .int f10_0, .int f11_0, .int f12_0, .int f13_0, .int f14_0, .int f15_0])), (a1, .inr (15, [.ref tx1, .ref cd1, .ref ca1, .ref pl1, .int f4_1, .int f5_1, .int f6_1, .int f7_1, .int f8_1, .int f9_1, .int f10_1, .int f11_1, .int f12_1, .int f13_1, .int f14_1, .int f15_1])), (a2, .inr (15, [.ref tx2, .ref cd2, .ref ca2, .ref pl2, .int f4_2, .int f5_2, .int f6_2, .int f7_2, .int f8_2, .int f9_2, .int f10_2, .int f11_2, .int f12_2, .int f13_2, .int f14_2, .int f15_2])), (a3, .inr (15, [.ref tx3, .ref cd3, .ref ca3, .ref pl3, .int f4_3, .int f5_3, .int f6_3, .int f7_3, .int f8_3, .int f9_3, .int f10_3, .int f11_3, .int f12_3, .int f13_3, .int f14_3, .int f15_3]))] U.heap ∧ va_K (dC, dI) vwCl [(cSs, .object RX10)] U ∧ va_D (fun _ => True) [(h0, .inr (17, [.ref ss, .ref tb, .ref pa, .ref ck, .ref ev, .ref pn, .ref lk, .ref jo, .ref orw, .ref nrw, .int g10, .int g11, .int g12, .int g13, .int g14, .int g15])), (ss, .inl (cSs, 4, .inr (.inr (.inr (.inr sf))))), (a0, .inr (15, [.ref tx0, .ref cd0, .ref ca0, .ref pl0, .int f4_0, .int f5_0, .int f6_0, .int f7_0, .int f8_0, .int f9_0, .int f10_0, .int f11_0, .int f12_0, .int f13_0, .int f14_0, .int f15_0])), (a1, .inr (15, [.ref tx1, .ref cd1, .ref ca1, .ref pl1, .int f4_1, .int f5_1, .int f6_1, .int f7_1, .int f8_1, .int f9_1, .int f10_1, .int f11_1, .int f12_1, .int f13_1, .int f14_1, .int f15_1])), (a2, .inr (15, [.ref tx2, .ref cd2, .ref ca2, .ref pl2, .int f4_2, .int f5_2, .int f6_2, .int f7_2, .int f8_2, .int f9_2, .int f10_2, .int f11_2, .int f12_2, .int f13_2, .int f14_2, .int f15_2])), (a3, .inr (15, [.ref tx3, .ref cd3, .ref ca3, .ref pl3, .int f4_3, .int f5_3, .int f6_3, .int f7_3, .int f8_3, .int f9_3, .int f10_3, .int f11_3, .int f12_3, .int f13_3, .int f14_3, .int f15_3]))])) (va_Qi (fun (r : Int32) (_ : Unit) => r = 0 + (if f13_0 ≤ 0 then 0 else 1 + f15_0) + (if f13_1 ≤ 0 then 0 else 1 + f15_1) + (if f13_2 ≤ 0 then 0 else 1 + f15_2) + (if f13_3 ≤ 0 then 0 else 1 + f15_3)) (fun (_ : Unit) (t : State) => va_P (dC, dI) vwCl [(h0, .inr (17, [.ref ss, .ref tb, .ref pa, .ref ck, .ref ev, .ref pn, .ref lk, .ref jo, .ref orw, .ref nrw, .int g10, .int g11, .int g12, .int g13, .int g14, .int g15])), (ss, .inl (cSs, 4, .inr (.inr (.inr (.inr sf))))), (a0, .inr (15, [.ref tx0, .ref cd0, .ref ca0, .ref pl0, .int f4_0, .int f5_0, .int f6_0, .int f7_0, .int f8_0, .int f9_0, .int f10_0, .int f11_0, .int f12_0, .int f13_0, .int f14_0, .int f15_0])), (a1, .inr (15, [.ref tx1, .ref cd1, .ref ca1, .ref pl1, .int f4_1, .int f5_1, .int f6_1, .int f7_1, .int f8_1, .int f9_1, .int f10_1, .int f11_1, .int f12_1, .int f13_1, .int f14_1, .int f15_1])), (a2, .inr (15, [.ref tx2, .ref cd2, .ref ca2, .ref pl2, .int f4_2, .int f5_2, .int f6_2, .int f7_2, .int f8_2, .int f9_2, .int f10_2, .int f11_2, .int f12_2, .int f13_2, .int f14_2, .int f15_2])), (a3, .inr (15, [.ref tx3, .ref cd3, .ref ca3, .ref pl3, .int f4_3, .int f5_3, .int f6_3, .int f7_3, .int f8_3, .int f9_3, .int f10_3, .int f11_3, .int f12_3, .int f13_3, .int f14_3, .int f15_3]))] t.heap ∧ va_K (dC, dI) vwCl [(cSs, .object RX10)] t ∧ va_D (va_A [(h0, .inr (17, [.ref ss, .ref tb, .ref pa, .ref ck, .ref ev, .ref pn, .ref lk, .ref jo, .ref orw, .ref nrw, .int g10, .int g11, .int g12, .int g13, .int g14, .int g15])), (ss, .inl (cSs, 4, .inr (.inr (.inr (.inr sf))))), (a0, .inr (15, [.ref tx0, .ref cd0, .ref ca0, .ref pl0, .int f4_0, .int f5_0, .int f6_0, .int f7_0, .int f8_0, .int f9_0, .int f10_0, .int f11_0, .int f12_0, .int f13_0, .int f14_0, .int f15_0])), (a1, .inr (15, [.ref tx1, .ref cd1, .ref ca1, .ref pl1, .int f4_1, .int f5_1, .int f6_1, .int f7_1, .int f8_1, .int f9_1, .int f10_1, .int f11_1, .int f12_1, .int f13_1, .int f14_1, .int f15_1])), (a2, .inr (15, [.ref tx2, .ref cd2, .ref ca2, .ref pl2, .int f4_2, .int f5_2, .int f6_2, .int f7_2, .int f8_2, .int f9_2, .int f10_2, .int f11_2, .int f12_2, .int f13_2, .int f14_2, .int f15_2])), (a3, .inr (15, [.ref tx3, .ref cd3, .ref ca3, .ref pl3, .int f4_3, .int f5_3, .int f6_3, .int f7_3, .int f8_3, .int f9_3, .int f10_3, .int f11_3, .int f12_3, .int f13_3, .int f14_3, .int f15_3]))] sz) [(h0, .inr (17, [.ref ss, .ref tb, .ref pa, .ref ck, .ref ev, .ref pn, .ref lk, .ref jo, .ref orw, .ref nrw, .int g10, .int g11, .int g12, .int g13, .int g14, .int g15])), (ss, .inl (cSs, 4, .inr (.inr (.inr (.inr sf))))), (a0, .inr (15, [.ref tx0, .ref cd0, .ref ca0, .ref pl0, .int f4_0, .int f5_0, .int f6_0, .int f7_0, .int f8_0, .int f9_0, .int f10_0, .int f11_0, .int f12_0, .int f13_0, .int f14_0, .int f15_0])), (a1, .inr (15, [.ref tx1, .ref cd1, .ref ca1, .ref pl1, .int f4_1, .int f5_1, .int f6_1, .int f7_1, .int f8_1, .int f9_1, .int f10_1, .int f11_1, .int f12_1, .int f13_1, .int f14_1, .int f15_1])), (a2, .inr (15, [.ref tx2, .ref cd2, .ref ca2, .ref pl2, .int f4_2, .int f5_2, .int f6_2, .int f7_2, .int f8_2, .int f9_2, .int f10_2, .int f11_2, .int f12_2, .int f13_2, .int f14_2, .int f15_2])), (a3, .inr (15, [.ref tx3, .ref cd3, .ref ca3, .ref pl3, .int f4_3, .int f5_3, .int f6_3, .int f7_3, .int f8_3, .int f9_3, .int f10_3, .int f11_3, .int f12_3, .int f13_3, .int f14_3, .int f15_3]))]) (va_A [(h0, .inr (17, [.ref ss, .ref tb, .ref pa, .ref ck, .ref ev, .ref pn, .ref lk, .ref jo, .ref orw, .ref nrw, .int g10, .int g11, .int g12, .int g13, .int g14, .int g15])), (ss, .inl (cSs, 4, .inr (.inr (.inr (.inr sf))))), (a0, .inr (15, [.ref tx0, .ref cd0, .ref ca0, .ref pl0, .int f4_0, .int f5_0, .int f6_0, .int f7_0, .int f8_0, .int f9_0, .int f10_0, .int f11_0, .int f12_0, .int f13_0, .int f14_0, .int f15_0])), (a1, .inr (15, [.ref tx1, .ref cd1, .ref ca1, .ref pl1, .int f4_1, .int f5_1, .int f6_1, .int f7_1, .int f8_1, .int f9_1, .int f10_1, .int f11_1, .int f12_1, .int f13_1, .int f14_1, .int f15_1])), (a2, .inr (15, [.ref tx2, .ref cd2, .ref ca2, .ref pl2, .int f4_2, .int f5_2, .int f6_2, .int f7_2, .int f8_2, .int f9_2, .int f10_2, .int f11_2, .int f12_2, .int f13_2, .int f14_2, .int f15_2])), (a3, .inr (15, [.ref tx3, .ref cd3, .ref ca3, .ref pl3, .int f4_3, .int f5_3, .int f6_3, .int f7_3, .int f8_3, .int f9_3, .int f10_3, .int f11_3, .int f12_3, .int f13_3, .int f14_3, .int f15_3]))] sz)) 0 0 (va_A [(h0, .inr (17, [.ref ss, .ref tb, .ref pa, .ref ck, .ref ev, .ref pn, .ref lk, .ref jo, .ref orw, .ref nrw, .int g10, .int g11, .int g12, .int g13, .int g14, .int g15])), (ss, .inl (cSs, 4, .inr (.inr (.inr (.inr sf))))), (a0, .inr (15, [.ref tx0, .ref cd0, .ref ca0, .ref pl0, .int f4_0, .int f5_0, .int f6_0, .int f7_0, .int f8_0, .int f9_0, .int f10_0, .int f11_0, .int f12_0, .int f13_0, .int f14_0, .int f15_0])), (a1, .inr (15, [.ref tx1, .ref cd1, .ref ca1, .ref pl1, .int f4_1, .int f5_1, .int f6_1, .int f7_1, .int f8_1, .int f9_1, .int f10_1, .int f11_1, .int f12_1, .int f13_1, .int f14_1, .int f15_1])), (a2, .inr (15, [.ref tx2, .ref cd2, .ref ca2, .ref pl2, .int f4_2, .int f5_2, .int f6_2, .int f7_2, .int f8_2, .int f9_2, .int f10_2, .int f11_2, .int f12_2, .int f13_2, .int f14_2, .int f15_2])), (a3, .inr (15, [.ref tx3, .ref cd3, .ref ca3, .ref pl3, .int f4_3, .int f5_3, .int f6_3, .int f7_3, .int f8_3, .int f9_3, .int f10_3, .int f11_3, .int f12_3, .int f13_3, .int f14_3, .int f15_3]))] sz) := by
  refine Met.ofW (cc := cX12_reserve) (maxL := 3) (ret := (some .int)) (by decide) rfl ?_
  intro p e s m args below meth c s₁ B hml hv
  obtain ⟨rfl, hsz, hP, hK, hD0⟩ := hv
  have hx := B.exec
  have hb := B.bytes
  have hr := B.returns
  have hts := atoms_spec (ws := wsX12_reserve) B.pre
  have hown : s.vm.findClass RX12 = some m.cls := findClass_of_methodNamed B.named
  have hlocks := B.notSynchronized
  subst hsz
  have hD := hD0.self (sz := s.heap.size)
  generalize hAe : va_A [(h0, .inr (17, [.ref ss, .ref tb, .ref pa, .ref ck, .ref ev, .ref pn, .ref lk, .ref jo, .ref orw, .ref nrw, .int g10, .int g11, .int g12, .int g13, .int g14, .int g15])), (ss, .inl (cSs, 4, .inr (.inr (.inr (.inr sf))))), (a0, .inr (15, [.ref tx0, .ref cd0, .ref ca0, .ref pl0, .int f4_0, .int f5_0, .int f6_0, .int f7_0, .int f8_0, .int f9_0, .int f10_0, .int f11_0, .int f12_0, .int f13_0, .int f14_0, .int f15_0])), (a1, .inr (15, [.ref tx1, .ref cd1, .ref ca1, .ref pl1, .int f4_1, .int f5_1, .int f6_1, .int f7_1, .int f8_1, .int f9_1, .int f10_1, .int f11_1, .int f12_1, .int f13_1, .int f14_1, .int f15_1])), (a2, .inr (15, [.ref tx2, .ref cd2, .ref ca2, .ref pl2, .int f4_2, .int f5_2, .int f6_2, .int f7_2, .int f8_2, .int f9_2, .int f10_2, .int f11_2, .int f12_2, .int f13_2, .int f14_2, .int f15_2])), (a3, .inr (15, [.ref tx3, .ref cd3, .ref ca3, .ref pl3, .int f4_3, .int f5_3, .int f6_3, .int f7_3, .int f8_3, .int f9_3, .int f10_3, .int f11_3, .int f12_3, .int f13_3, .int f14_3, .int f15_3]))] s.heap.size = A at hD ⊢
  have hA : ∀ q : Nat, s.heap.size ≤ q → A q := fun q h => by rw [← hAe]; exact Or.inr h
  have hS : va_S A s.heap s.heap [] := va_S.rf
  have hP : va_P (dC, dI) vwCl [(h0, .inr (17, [.ref ss, .ref tb, .ref pa, .ref ck, .ref ev, .ref pn, .ref lk, .ref jo, .ref orw, .ref nrw, .int g10, .int g11, .int g12, .int g13, .int g14, .int g15])), (ss, .inl (cSs, 4, .inr (.inr (.inr (.inr sf))))), (a0, .inr (15, [.ref tx0, .ref cd0, .ref ca0, .ref pl0, .int f4_0, .int f5_0, .int f6_0, .int f7_0, .int f8_0, .int f9_0, .int f10_0, .int f11_0, .int f12_0, .int f13_0, .int f14_0, .int f15_0])), (a1, .inr (15, [.ref tx1, .ref cd1, .ref ca1, .ref pl1, .int f4_1, .int f5_1, .int f6_1, .int f7_1, .int f8_1, .int f9_1, .int f10_1, .int f11_1, .int f12_1, .int f13_1, .int f14_1, .int f15_1])), (a2, .inr (15, [.ref tx2, .ref cd2, .ref ca2, .ref pl2, .int f4_2, .int f5_2, .int f6_2, .int f7_2, .int f8_2, .int f9_2, .int f10_2, .int f11_2, .int f12_2, .int f13_2, .int f14_2, .int f15_2])), (a3, .inr (15, [.ref tx3, .ref cd3, .ref ca3, .ref pl3, .int f4_3, .int f5_3, .int f6_3, .int f7_3, .int f8_3, .int f9_3, .int f10_3, .int f11_3, .int f12_3, .int f13_3, .int f14_3, .int f15_3]))] s.heap := hP
  have hl := lv_entry ([.ref h0]) (n := 3) (Nat.le_of_ble_eq_true rfl)
  rw [lg_entry_eq]
  generalize (lg_sl ([.ref h0]) ++ List.replicate (3 - (lg_sl ([.ref h0])).length) Slot.unset).toArray = ls at hl ⊢
  have hl : lv_has ls 3 [(0, .ref h0)] := hl
  refine lv_iconst (v := 0) hx hb dX12_reserve_0 (by decide) ?_
  refine lv_istore_n (lv' := [(1, .int 0), (0, .ref h0)]) hx hb dX12_reserve_1 rfl hl (by decide) rfl (fun ls hl => ?_)
  refine lv_iconst (v := 0) hx hb dX12_reserve_2 (by decide) ?_
  refine lv_istore_n (lv' := [(2, .int 0), (1, .int 0), (0, .ref h0)]) hx hb dX12_reserve_3 rfl hl (by decide) rfl (fun ls hl => ?_)
  refine lv_iload_n hx hb dX12_reserve_4 rfl (lv_at hl 0 rfl) ?_
  refine lv_iconst (v := 4) hx hb dX12_reserve_5 (by decide) ?_
  refine lv_icmp_ge (tgt := 45) hx hb dX12_reserve_6 (by decide) (fun c_1 => absurd c_1 (by decide)) (fun _ => ?_)
  refine lv_iload_n hx hb dX12_reserve_9 rfl (lv_at hl 1 rfl) ?_
  refine lv_aload_n hx hb dX12_reserve_10 rfl (lv_at hl 2 rfl) ?_
  refine va_get (D := (dC, dI)) (ci := 17) (v := .ref ss) (C := RX12) (T := TX12) (N := 16) hx hb hts (by decide +kernel) hown hK hP 0 rfl rfl 0 (by decide) (hts (.fieldLink RX12 11 "QueryHall" "sessions" "[LQueryHall$Session;") (by decide +kernel)) (fun _ h9 => h9) rfl dX12_reserve_11 ?_
  refine lv_iload_n hx hb dX12_reserve_14 rfl (lv_at hl 0 rfl) ?_
  refine va_aldq hx hb hK hP 1 0 rfl rfl (show ¬ ((0 : Int32) < 0 ∨ 4 ≤ (0 : Int32).toNatClampNeg) by decide) dX12_reserve_15 ?_
  refine W.eq (g2 := F0 m 16 ls [.ref a0, .int 0]) (by rw [show (0 : Int32).toNatClampNeg = 0 from rfl, hs0]; rfl) ?_
  refine va_get (D := (dC, dI)) (ci := 15) (v := .int f13_0) (C := RX10) (T := TX10) (N := 16) hx hb hts (by decide +kernel) hown hK hP 2 rfl rfl 13 (by decide) (hts (.fieldLink RX12 250 "QueryHall$Session" "begin" "I") (by decide +kernel)) (fun _ h9 => h9) rfl dX12_reserve_16 ?_
  refine lv_if_le (tgt := 36) hx hb dX12_reserve_19 (by decide) (fun c_2 => ?_) (fun c_2 => ?_)
  · skip
    refine lv_iconst (v := 0) hx hb dX12_reserve_36 (by decide) ?_
    refine lv_iadd hx hb dX12_reserve_37 ?_
    refine lv_topi (fun x_3 ex_3 => ?_)
    refine lv_istore_n (lv' := [(1, .int x_3), (2, .int 0), (0, .ref h0)]) hx hb dX12_reserve_38 rfl hl (by decide) rfl (fun ls hl => ?_)
    refine lv_iinc (v := 1) (lv' := [(2, .int 1), (1, .int x_3), (0, .ref h0)]) hx hb dX12_reserve_39 hl (k := 1) rfl (by decide) (by decide) rfl (fun ls hl => ?_)
    refine lv_goto (tgt := 4) hx hb dX12_reserve_42 (by decide) ?_
    refine lv_iload_n hx hb dX12_reserve_4 rfl (lv_at hl 0 rfl) ?_
    refine lv_iconst (v := 4) hx hb dX12_reserve_5 (by decide) ?_
    refine lv_icmp_ge (tgt := 45) hx hb dX12_reserve_6 (by decide) (fun c_4 => absurd c_4 (by decide)) (fun _ => ?_)
    refine lv_iload_n hx hb dX12_reserve_9 rfl (lv_at hl 1 rfl) ?_
    refine lv_aload_n hx hb dX12_reserve_10 rfl (lv_at hl 2 rfl) ?_
    refine va_get (D := (dC, dI)) (ci := 17) (v := .ref ss) (C := RX12) (T := TX12) (N := 16) hx hb hts (by decide +kernel) hown hK hP 0 rfl rfl 0 (by decide) (hts (.fieldLink RX12 11 "QueryHall" "sessions" "[LQueryHall$Session;") (by decide +kernel)) (fun _ h9 => h9) rfl dX12_reserve_11 ?_
    refine lv_iload_n hx hb dX12_reserve_14 rfl (lv_at hl 0 rfl) ?_
    refine va_aldq hx hb hK hP 1 0 rfl rfl (show ¬ ((1 : Int32) < 0 ∨ 4 ≤ (1 : Int32).toNatClampNeg) by decide) dX12_reserve_15 ?_
    refine W.eq (g2 := F0 m 16 ls [.ref a1, .int x_3]) (by rw [show (1 : Int32).toNatClampNeg = 1 from rfl, hs1]; rfl) ?_
    refine va_get (D := (dC, dI)) (ci := 15) (v := .int f13_1) (C := RX10) (T := TX10) (N := 16) hx hb hts (by decide +kernel) hown hK hP 3 rfl rfl 13 (by decide) (hts (.fieldLink RX12 250 "QueryHall$Session" "begin" "I") (by decide +kernel)) (fun _ h9 => h9) rfl dX12_reserve_16 ?_
    refine lv_if_le (tgt := 36) hx hb dX12_reserve_19 (by decide) (fun c_5 => ?_) (fun c_5 => ?_)
    · skip
      refine lv_iconst (v := 0) hx hb dX12_reserve_36 (by decide) ?_
      refine lv_iadd hx hb dX12_reserve_37 ?_
      refine lv_topi (fun x_6 ex_6 => ?_)
      refine lv_istore_n (lv' := [(1, .int x_6), (2, .int 1), (0, .ref h0)]) hx hb dX12_reserve_38 rfl hl (by decide) rfl (fun ls hl => ?_)
      refine lv_iinc (v := 2) (lv' := [(2, .int 2), (1, .int x_6), (0, .ref h0)]) hx hb dX12_reserve_39 hl (k := 1) rfl (by decide) (by decide) rfl (fun ls hl => ?_)
      refine lv_goto (tgt := 4) hx hb dX12_reserve_42 (by decide) ?_
      refine lv_iload_n hx hb dX12_reserve_4 rfl (lv_at hl 0 rfl) ?_
      refine lv_iconst (v := 4) hx hb dX12_reserve_5 (by decide) ?_
      refine lv_icmp_ge (tgt := 45) hx hb dX12_reserve_6 (by decide) (fun c_7 => absurd c_7 (by decide)) (fun _ => ?_)
      refine lv_iload_n hx hb dX12_reserve_9 rfl (lv_at hl 1 rfl) ?_
      refine lv_aload_n hx hb dX12_reserve_10 rfl (lv_at hl 2 rfl) ?_
      refine va_get (D := (dC, dI)) (ci := 17) (v := .ref ss) (C := RX12) (T := TX12) (N := 16) hx hb hts (by decide +kernel) hown hK hP 0 rfl rfl 0 (by decide) (hts (.fieldLink RX12 11 "QueryHall" "sessions" "[LQueryHall$Session;") (by decide +kernel)) (fun _ h9 => h9) rfl dX12_reserve_11 ?_
      refine lv_iload_n hx hb dX12_reserve_14 rfl (lv_at hl 0 rfl) ?_
      refine va_aldq hx hb hK hP 1 0 rfl rfl (show ¬ ((2 : Int32) < 0 ∨ 4 ≤ (2 : Int32).toNatClampNeg) by decide) dX12_reserve_15 ?_
      refine W.eq (g2 := F0 m 16 ls [.ref a2, .int x_6]) (by rw [show (2 : Int32).toNatClampNeg = 2 from rfl, hs2]; rfl) ?_
      refine va_get (D := (dC, dI)) (ci := 15) (v := .int f13_2) (C := RX10) (T := TX10) (N := 16) hx hb hts (by decide +kernel) hown hK hP 4 rfl rfl 13 (by decide) (hts (.fieldLink RX12 250 "QueryHall$Session" "begin" "I") (by decide +kernel)) (fun _ h9 => h9) rfl dX12_reserve_16 ?_
      refine lv_if_le (tgt := 36) hx hb dX12_reserve_19 (by decide) (fun c_8 => ?_) (fun c_8 => ?_)
      · skip
        refine lv_iconst (v := 0) hx hb dX12_reserve_36 (by decide) ?_
        refine lv_iadd hx hb dX12_reserve_37 ?_
        refine lv_topi (fun x_9 ex_9 => ?_)
        refine lv_istore_n (lv' := [(1, .int x_9), (2, .int 2), (0, .ref h0)]) hx hb dX12_reserve_38 rfl hl (by decide) rfl (fun ls hl => ?_)
        refine lv_iinc (v := 3) (lv' := [(2, .int 3), (1, .int x_9), (0, .ref h0)]) hx hb dX12_reserve_39 hl (k := 1) rfl (by decide) (by decide) rfl (fun ls hl => ?_)
        refine lv_goto (tgt := 4) hx hb dX12_reserve_42 (by decide) ?_
        refine lv_iload_n hx hb dX12_reserve_4 rfl (lv_at hl 0 rfl) ?_
        refine lv_iconst (v := 4) hx hb dX12_reserve_5 (by decide) ?_
        refine lv_icmp_ge (tgt := 45) hx hb dX12_reserve_6 (by decide) (fun c_10 => absurd c_10 (by decide)) (fun _ => ?_)
        refine lv_iload_n hx hb dX12_reserve_9 rfl (lv_at hl 1 rfl) ?_
        refine lv_aload_n hx hb dX12_reserve_10 rfl (lv_at hl 2 rfl) ?_
        refine va_get (D := (dC, dI)) (ci := 17) (v := .ref ss) (C := RX12) (T := TX12) (N := 16) hx hb hts (by decide +kernel) hown hK hP 0 rfl rfl 0 (by decide) (hts (.fieldLink RX12 11 "QueryHall" "sessions" "[LQueryHall$Session;") (by decide +kernel)) (fun _ h9 => h9) rfl dX12_reserve_11 ?_
        refine lv_iload_n hx hb dX12_reserve_14 rfl (lv_at hl 0 rfl) ?_
        refine va_aldq hx hb hK hP 1 0 rfl rfl (show ¬ ((3 : Int32) < 0 ∨ 4 ≤ (3 : Int32).toNatClampNeg) by decide) dX12_reserve_15 ?_
        refine W.eq (g2 := F0 m 16 ls [.ref a3, .int x_9]) (by rw [show (3 : Int32).toNatClampNeg = 3 from rfl, hs3]; rfl) ?_
        refine va_get (D := (dC, dI)) (ci := 15) (v := .int f13_3) (C := RX10) (T := TX10) (N := 16) hx hb hts (by decide +kernel) hown hK hP 5 rfl rfl 13 (by decide) (hts (.fieldLink RX12 250 "QueryHall$Session" "begin" "I") (by decide +kernel)) (fun _ h9 => h9) rfl dX12_reserve_16 ?_
        refine lv_if_le (tgt := 36) hx hb dX12_reserve_19 (by decide) (fun c_11 => ?_) (fun c_11 => ?_)
        · skip
          refine lv_iconst (v := 0) hx hb dX12_reserve_36 (by decide) ?_
          refine lv_iadd hx hb dX12_reserve_37 ?_
          refine lv_topi (fun x_12 ex_12 => ?_)
          refine lv_istore_n (lv' := [(1, .int x_12), (2, .int 3), (0, .ref h0)]) hx hb dX12_reserve_38 rfl hl (by decide) rfl (fun ls hl => ?_)
          refine lv_iinc (v := 4) (lv' := [(2, .int 4), (1, .int x_12), (0, .ref h0)]) hx hb dX12_reserve_39 hl (k := 1) rfl (by decide) (by decide) rfl (fun ls hl => ?_)
          refine lv_goto (tgt := 4) hx hb dX12_reserve_42 (by decide) ?_
          refine lv_iload_n hx hb dX12_reserve_4 rfl (lv_at hl 0 rfl) ?_
          refine lv_iconst (v := 4) hx hb dX12_reserve_5 (by decide) ?_
          refine lv_icmp_ge (tgt := 45) hx hb dX12_reserve_6 (by decide) (fun _ => ?_) (fun c_13 => absurd (by decide) c_13)
          refine lv_iload_n hx hb dX12_reserve_45 rfl (lv_at hl 1 rfl) ?_
          have hP9 := hP.sub (ws' := [(h0, .inr (17, [.ref ss, .ref tb, .ref pa, .ref ck, .ref ev, .ref pn, .ref lk, .ref jo, .ref orw, .ref nrw, .int g10, .int g11, .int g12, .int g13, .int g14, .int g15])), (ss, .inl (cSs, 4, .inr (.inr (.inr (.inr sf))))), (a0, .inr (15, [.ref tx0, .ref cd0, .ref ca0, .ref pl0, .int f4_0, .int f5_0, .int f6_0, .int f7_0, .int f8_0, .int f9_0, .int f10_0, .int f11_0, .int f12_0, .int f13_0, .int f14_0, .int f15_0])), (a1, .inr (15, [.ref tx1, .ref cd1, .ref ca1, .ref pl1, .int f4_1, .int f5_1, .int f6_1, .int f7_1, .int f8_1, .int f9_1, .int f10_1, .int f11_1, .int f12_1, .int f13_1, .int f14_1, .int f15_1])), (a2, .inr (15, [.ref tx2, .ref cd2, .ref ca2, .ref pl2, .int f4_2, .int f5_2, .int f6_2, .int f7_2, .int f8_2, .int f9_2, .int f10_2, .int f11_2, .int f12_2, .int f13_2, .int f14_2, .int f15_2])), (a3, .inr (15, [.ref tx3, .ref cd3, .ref ca3, .ref pl3, .int f4_3, .int f5_3, .int f6_3, .int f7_3, .int f8_3, .int f9_3, .int f10_3, .int f11_3, .int f12_3, .int f13_3, .int f14_3, .int f15_3]))]) [0, 1, 2, 3, 4, 5] rfl
          have hD9 := hD.sub (ws' := [(h0, .inr (17, [.ref ss, .ref tb, .ref pa, .ref ck, .ref ev, .ref pn, .ref lk, .ref jo, .ref orw, .ref nrw, .int g10, .int g11, .int g12, .int g13, .int g14, .int g15])), (ss, .inl (cSs, 4, .inr (.inr (.inr (.inr sf))))), (a0, .inr (15, [.ref tx0, .ref cd0, .ref ca0, .ref pl0, .int f4_0, .int f5_0, .int f6_0, .int f7_0, .int f8_0, .int f9_0, .int f10_0, .int f11_0, .int f12_0, .int f13_0, .int f14_0, .int f15_0])), (a1, .inr (15, [.ref tx1, .ref cd1, .ref ca1, .ref pl1, .int f4_1, .int f5_1, .int f6_1, .int f7_1, .int f8_1, .int f9_1, .int f10_1, .int f11_1, .int f12_1, .int f13_1, .int f14_1, .int f15_1])), (a2, .inr (15, [.ref tx2, .ref cd2, .ref ca2, .ref pl2, .int f4_2, .int f5_2, .int f6_2, .int f7_2, .int f8_2, .int f9_2, .int f10_2, .int f11_2, .int f12_2, .int f13_2, .int f14_2, .int f15_2])), (a3, .inr (15, [.ref tx3, .ref cd3, .ref ca3, .ref pl3, .int f4_3, .int f5_3, .int f6_3, .int f7_3, .int f8_3, .int f9_3, .int f10_3, .int f11_3, .int f12_3, .int f13_3, .int f14_3, .int f15_3]))]) [0, 1, 2, 3, 4, 5] (by decide) rfl
          have hK9 := hK.sub (tys' := [(cSs, .object RX10)]) [0] rfl
          exact W.iret (v := x_12) hx hb hr (fun t ht hW => ⟨⟨x_12, (), rfl, (by subst_vars; try (first | rw [if_pos c_2] | rw [if_neg c_2]); try (first | rw [if_pos c_5] | rw [if_neg c_5]); try (first | rw [if_pos c_8] | rw [if_neg c_8]); try (first | rw [if_pos c_11] | rw [if_neg c_11]); try rfl), by rw [ht]; exact hP9, va_K.moved hW.alike hK9, hD9⟩, hS.F ht⟩) hS.2.2 dX12_reserve_46
        · skip
          refine lv_iconst (v := 1) hx hb dX12_reserve_22 (by decide) ?_
          refine lv_aload_n hx hb dX12_reserve_23 rfl (lv_at hl 2 rfl) ?_
          refine va_get (D := (dC, dI)) (ci := 17) (v := .ref ss) (C := RX12) (T := TX12) (N := 16) hx hb hts (by decide +kernel) hown hK hP 0 rfl rfl 0 (by decide) (hts (.fieldLink RX12 11 "QueryHall" "sessions" "[LQueryHall$Session;") (by decide +kernel)) (fun _ h9 => h9) rfl dX12_reserve_24 ?_
          refine lv_iload_n hx hb dX12_reserve_27 rfl (lv_at hl 0 rfl) ?_
          refine va_aldq hx hb hK hP 1 0 rfl rfl (show ¬ ((3 : Int32) < 0 ∨ 4 ≤ (3 : Int32).toNatClampNeg) by decide) dX12_reserve_28 ?_
          refine W.eq (g2 := F0 m 29 ls [.ref a3, .int 1, .int x_9]) (by rw [show (3 : Int32).toNatClampNeg = 3 from rfl, hs3]; rfl) ?_
          refine va_get (D := (dC, dI)) (ci := 15) (v := .int f15_3) (C := RX10) (T := TX10) (N := 16) hx hb hts (by decide +kernel) hown hK hP 5 rfl rfl 15 (by decide) (hts (.fieldLink RX12 475 "QueryHall$Session" "openRecords" "I") (by decide +kernel)) (fun _ h9 => h9) rfl dX12_reserve_29 ?_
          refine lv_iadd hx hb dX12_reserve_32 ?_
          refine lv_goto (tgt := 37) hx hb dX12_reserve_33 (by decide) ?_
          refine lv_iadd hx hb dX12_reserve_37 ?_
          refine lv_topi (fun x_14 ex_14 => ?_)
          refine lv_istore_n (lv' := [(1, .int x_14), (2, .int 3), (0, .ref h0)]) hx hb dX12_reserve_38 rfl hl (by decide) rfl (fun ls hl => ?_)
          refine lv_iinc (v := 4) (lv' := [(2, .int 4), (1, .int x_14), (0, .ref h0)]) hx hb dX12_reserve_39 hl (k := 1) rfl (by decide) (by decide) rfl (fun ls hl => ?_)
          refine lv_goto (tgt := 4) hx hb dX12_reserve_42 (by decide) ?_
          refine lv_iload_n hx hb dX12_reserve_4 rfl (lv_at hl 0 rfl) ?_
          refine lv_iconst (v := 4) hx hb dX12_reserve_5 (by decide) ?_
          refine lv_icmp_ge (tgt := 45) hx hb dX12_reserve_6 (by decide) (fun _ => ?_) (fun c_15 => absurd (by decide) c_15)
          refine lv_iload_n hx hb dX12_reserve_45 rfl (lv_at hl 1 rfl) ?_
          have hP9 := hP.sub (ws' := [(h0, .inr (17, [.ref ss, .ref tb, .ref pa, .ref ck, .ref ev, .ref pn, .ref lk, .ref jo, .ref orw, .ref nrw, .int g10, .int g11, .int g12, .int g13, .int g14, .int g15])), (ss, .inl (cSs, 4, .inr (.inr (.inr (.inr sf))))), (a0, .inr (15, [.ref tx0, .ref cd0, .ref ca0, .ref pl0, .int f4_0, .int f5_0, .int f6_0, .int f7_0, .int f8_0, .int f9_0, .int f10_0, .int f11_0, .int f12_0, .int f13_0, .int f14_0, .int f15_0])), (a1, .inr (15, [.ref tx1, .ref cd1, .ref ca1, .ref pl1, .int f4_1, .int f5_1, .int f6_1, .int f7_1, .int f8_1, .int f9_1, .int f10_1, .int f11_1, .int f12_1, .int f13_1, .int f14_1, .int f15_1])), (a2, .inr (15, [.ref tx2, .ref cd2, .ref ca2, .ref pl2, .int f4_2, .int f5_2, .int f6_2, .int f7_2, .int f8_2, .int f9_2, .int f10_2, .int f11_2, .int f12_2, .int f13_2, .int f14_2, .int f15_2])), (a3, .inr (15, [.ref tx3, .ref cd3, .ref ca3, .ref pl3, .int f4_3, .int f5_3, .int f6_3, .int f7_3, .int f8_3, .int f9_3, .int f10_3, .int f11_3, .int f12_3, .int f13_3, .int f14_3, .int f15_3]))]) [0, 1, 2, 3, 4, 5] rfl
          have hD9 := hD.sub (ws' := [(h0, .inr (17, [.ref ss, .ref tb, .ref pa, .ref ck, .ref ev, .ref pn, .ref lk, .ref jo, .ref orw, .ref nrw, .int g10, .int g11, .int g12, .int g13, .int g14, .int g15])), (ss, .inl (cSs, 4, .inr (.inr (.inr (.inr sf))))), (a0, .inr (15, [.ref tx0, .ref cd0, .ref ca0, .ref pl0, .int f4_0, .int f5_0, .int f6_0, .int f7_0, .int f8_0, .int f9_0, .int f10_0, .int f11_0, .int f12_0, .int f13_0, .int f14_0, .int f15_0])), (a1, .inr (15, [.ref tx1, .ref cd1, .ref ca1, .ref pl1, .int f4_1, .int f5_1, .int f6_1, .int f7_1, .int f8_1, .int f9_1, .int f10_1, .int f11_1, .int f12_1, .int f13_1, .int f14_1, .int f15_1])), (a2, .inr (15, [.ref tx2, .ref cd2, .ref ca2, .ref pl2, .int f4_2, .int f5_2, .int f6_2, .int f7_2, .int f8_2, .int f9_2, .int f10_2, .int f11_2, .int f12_2, .int f13_2, .int f14_2, .int f15_2])), (a3, .inr (15, [.ref tx3, .ref cd3, .ref ca3, .ref pl3, .int f4_3, .int f5_3, .int f6_3, .int f7_3, .int f8_3, .int f9_3, .int f10_3, .int f11_3, .int f12_3, .int f13_3, .int f14_3, .int f15_3]))]) [0, 1, 2, 3, 4, 5] (by decide) rfl
          have hK9 := hK.sub (tys' := [(cSs, .object RX10)]) [0] rfl
          exact W.iret (v := x_14) hx hb hr (fun t ht hW => ⟨⟨x_14, (), rfl, (by subst_vars; try (first | rw [if_pos c_2] | rw [if_neg c_2]); try (first | rw [if_pos c_5] | rw [if_neg c_5]); try (first | rw [if_pos c_8] | rw [if_neg c_8]); try (first | rw [if_pos c_11] | rw [if_neg c_11]); try rfl), by rw [ht]; exact hP9, va_K.moved hW.alike hK9, hD9⟩, hS.F ht⟩) hS.2.2 dX12_reserve_46
      · skip
        refine lv_iconst (v := 1) hx hb dX12_reserve_22 (by decide) ?_
        refine lv_aload_n hx hb dX12_reserve_23 rfl (lv_at hl 2 rfl) ?_
        refine va_get (D := (dC, dI)) (ci := 17) (v := .ref ss) (C := RX12) (T := TX12) (N := 16) hx hb hts (by decide +kernel) hown hK hP 0 rfl rfl 0 (by decide) (hts (.fieldLink RX12 11 "QueryHall" "sessions" "[LQueryHall$Session;") (by decide +kernel)) (fun _ h9 => h9) rfl dX12_reserve_24 ?_
        refine lv_iload_n hx hb dX12_reserve_27 rfl (lv_at hl 0 rfl) ?_
        refine va_aldq hx hb hK hP 1 0 rfl rfl (show ¬ ((2 : Int32) < 0 ∨ 4 ≤ (2 : Int32).toNatClampNeg) by decide) dX12_reserve_28 ?_
        refine W.eq (g2 := F0 m 29 ls [.ref a2, .int 1, .int x_6]) (by rw [show (2 : Int32).toNatClampNeg = 2 from rfl, hs2]; rfl) ?_
        refine va_get (D := (dC, dI)) (ci := 15) (v := .int f15_2) (C := RX10) (T := TX10) (N := 16) hx hb hts (by decide +kernel) hown hK hP 4 rfl rfl 15 (by decide) (hts (.fieldLink RX12 475 "QueryHall$Session" "openRecords" "I") (by decide +kernel)) (fun _ h9 => h9) rfl dX12_reserve_29 ?_
        refine lv_iadd hx hb dX12_reserve_32 ?_
        refine lv_goto (tgt := 37) hx hb dX12_reserve_33 (by decide) ?_
        refine lv_iadd hx hb dX12_reserve_37 ?_
        refine lv_topi (fun x_16 ex_16 => ?_)
        refine lv_istore_n (lv' := [(1, .int x_16), (2, .int 2), (0, .ref h0)]) hx hb dX12_reserve_38 rfl hl (by decide) rfl (fun ls hl => ?_)
        refine lv_iinc (v := 3) (lv' := [(2, .int 3), (1, .int x_16), (0, .ref h0)]) hx hb dX12_reserve_39 hl (k := 1) rfl (by decide) (by decide) rfl (fun ls hl => ?_)
        refine lv_goto (tgt := 4) hx hb dX12_reserve_42 (by decide) ?_
        refine lv_iload_n hx hb dX12_reserve_4 rfl (lv_at hl 0 rfl) ?_
        refine lv_iconst (v := 4) hx hb dX12_reserve_5 (by decide) ?_
        refine lv_icmp_ge (tgt := 45) hx hb dX12_reserve_6 (by decide) (fun c_17 => absurd c_17 (by decide)) (fun _ => ?_)
        refine lv_iload_n hx hb dX12_reserve_9 rfl (lv_at hl 1 rfl) ?_
        refine lv_aload_n hx hb dX12_reserve_10 rfl (lv_at hl 2 rfl) ?_
        refine va_get (D := (dC, dI)) (ci := 17) (v := .ref ss) (C := RX12) (T := TX12) (N := 16) hx hb hts (by decide +kernel) hown hK hP 0 rfl rfl 0 (by decide) (hts (.fieldLink RX12 11 "QueryHall" "sessions" "[LQueryHall$Session;") (by decide +kernel)) (fun _ h9 => h9) rfl dX12_reserve_11 ?_
        refine lv_iload_n hx hb dX12_reserve_14 rfl (lv_at hl 0 rfl) ?_
        refine va_aldq hx hb hK hP 1 0 rfl rfl (show ¬ ((3 : Int32) < 0 ∨ 4 ≤ (3 : Int32).toNatClampNeg) by decide) dX12_reserve_15 ?_
        refine W.eq (g2 := F0 m 16 ls [.ref a3, .int x_16]) (by rw [show (3 : Int32).toNatClampNeg = 3 from rfl, hs3]; rfl) ?_
        refine va_get (D := (dC, dI)) (ci := 15) (v := .int f13_3) (C := RX10) (T := TX10) (N := 16) hx hb hts (by decide +kernel) hown hK hP 5 rfl rfl 13 (by decide) (hts (.fieldLink RX12 250 "QueryHall$Session" "begin" "I") (by decide +kernel)) (fun _ h9 => h9) rfl dX12_reserve_16 ?_
        refine lv_if_le (tgt := 36) hx hb dX12_reserve_19 (by decide) (fun c_18 => ?_) (fun c_18 => ?_)
        · skip
          refine lv_iconst (v := 0) hx hb dX12_reserve_36 (by decide) ?_
          refine lv_iadd hx hb dX12_reserve_37 ?_
          refine lv_topi (fun x_19 ex_19 => ?_)
          refine lv_istore_n (lv' := [(1, .int x_19), (2, .int 3), (0, .ref h0)]) hx hb dX12_reserve_38 rfl hl (by decide) rfl (fun ls hl => ?_)
          refine lv_iinc (v := 4) (lv' := [(2, .int 4), (1, .int x_19), (0, .ref h0)]) hx hb dX12_reserve_39 hl (k := 1) rfl (by decide) (by decide) rfl (fun ls hl => ?_)
          refine lv_goto (tgt := 4) hx hb dX12_reserve_42 (by decide) ?_
          refine lv_iload_n hx hb dX12_reserve_4 rfl (lv_at hl 0 rfl) ?_
          refine lv_iconst (v := 4) hx hb dX12_reserve_5 (by decide) ?_
          refine lv_icmp_ge (tgt := 45) hx hb dX12_reserve_6 (by decide) (fun _ => ?_) (fun c_20 => absurd (by decide) c_20)
          refine lv_iload_n hx hb dX12_reserve_45 rfl (lv_at hl 1 rfl) ?_
          have hP9 := hP.sub (ws' := [(h0, .inr (17, [.ref ss, .ref tb, .ref pa, .ref ck, .ref ev, .ref pn, .ref lk, .ref jo, .ref orw, .ref nrw, .int g10, .int g11, .int g12, .int g13, .int g14, .int g15])), (ss, .inl (cSs, 4, .inr (.inr (.inr (.inr sf))))), (a0, .inr (15, [.ref tx0, .ref cd0, .ref ca0, .ref pl0, .int f4_0, .int f5_0, .int f6_0, .int f7_0, .int f8_0, .int f9_0, .int f10_0, .int f11_0, .int f12_0, .int f13_0, .int f14_0, .int f15_0])), (a1, .inr (15, [.ref tx1, .ref cd1, .ref ca1, .ref pl1, .int f4_1, .int f5_1, .int f6_1, .int f7_1, .int f8_1, .int f9_1, .int f10_1, .int f11_1, .int f12_1, .int f13_1, .int f14_1, .int f15_1])), (a2, .inr (15, [.ref tx2, .ref cd2, .ref ca2, .ref pl2, .int f4_2, .int f5_2, .int f6_2, .int f7_2, .int f8_2, .int f9_2, .int f10_2, .int f11_2, .int f12_2, .int f13_2, .int f14_2, .int f15_2])), (a3, .inr (15, [.ref tx3, .ref cd3, .ref ca3, .ref pl3, .int f4_3, .int f5_3, .int f6_3, .int f7_3, .int f8_3, .int f9_3, .int f10_3, .int f11_3, .int f12_3, .int f13_3, .int f14_3, .int f15_3]))]) [0, 1, 2, 3, 4, 5] rfl
          have hD9 := hD.sub (ws' := [(h0, .inr (17, [.ref ss, .ref tb, .ref pa, .ref ck, .ref ev, .ref pn, .ref lk, .ref jo, .ref orw, .ref nrw, .int g10, .int g11, .int g12, .int g13, .int g14, .int g15])), (ss, .inl (cSs, 4, .inr (.inr (.inr (.inr sf))))), (a0, .inr (15, [.ref tx0, .ref cd0, .ref ca0, .ref pl0, .int f4_0, .int f5_0, .int f6_0, .int f7_0, .int f8_0, .int f9_0, .int f10_0, .int f11_0, .int f12_0, .int f13_0, .int f14_0, .int f15_0])), (a1, .inr (15, [.ref tx1, .ref cd1, .ref ca1, .ref pl1, .int f4_1, .int f5_1, .int f6_1, .int f7_1, .int f8_1, .int f9_1, .int f10_1, .int f11_1, .int f12_1, .int f13_1, .int f14_1, .int f15_1])), (a2, .inr (15, [.ref tx2, .ref cd2, .ref ca2, .ref pl2, .int f4_2, .int f5_2, .int f6_2, .int f7_2, .int f8_2, .int f9_2, .int f10_2, .int f11_2, .int f12_2, .int f13_2, .int f14_2, .int f15_2])), (a3, .inr (15, [.ref tx3, .ref cd3, .ref ca3, .ref pl3, .int f4_3, .int f5_3, .int f6_3, .int f7_3, .int f8_3, .int f9_3, .int f10_3, .int f11_3, .int f12_3, .int f13_3, .int f14_3, .int f15_3]))]) [0, 1, 2, 3, 4, 5] (by decide) rfl
          have hK9 := hK.sub (tys' := [(cSs, .object RX10)]) [0] rfl
          exact W.iret (v := x_19) hx hb hr (fun t ht hW => ⟨⟨x_19, (), rfl, (by subst_vars; try (first | rw [if_pos c_2] | rw [if_neg c_2]); try (first | rw [if_pos c_5] | rw [if_neg c_5]); try (first | rw [if_pos c_8] | rw [if_neg c_8]); try (first | rw [if_pos c_18] | rw [if_neg c_18]); try rfl), by rw [ht]; exact hP9, va_K.moved hW.alike hK9, hD9⟩, hS.F ht⟩) hS.2.2 dX12_reserve_46
        · skip
          refine lv_iconst (v := 1) hx hb dX12_reserve_22 (by decide) ?_
          refine lv_aload_n hx hb dX12_reserve_23 rfl (lv_at hl 2 rfl) ?_
          refine va_get (D := (dC, dI)) (ci := 17) (v := .ref ss) (C := RX12) (T := TX12) (N := 16) hx hb hts (by decide +kernel) hown hK hP 0 rfl rfl 0 (by decide) (hts (.fieldLink RX12 11 "QueryHall" "sessions" "[LQueryHall$Session;") (by decide +kernel)) (fun _ h9 => h9) rfl dX12_reserve_24 ?_
          refine lv_iload_n hx hb dX12_reserve_27 rfl (lv_at hl 0 rfl) ?_
          refine va_aldq hx hb hK hP 1 0 rfl rfl (show ¬ ((3 : Int32) < 0 ∨ 4 ≤ (3 : Int32).toNatClampNeg) by decide) dX12_reserve_28 ?_
          refine W.eq (g2 := F0 m 29 ls [.ref a3, .int 1, .int x_16]) (by rw [show (3 : Int32).toNatClampNeg = 3 from rfl, hs3]; rfl) ?_
          refine va_get (D := (dC, dI)) (ci := 15) (v := .int f15_3) (C := RX10) (T := TX10) (N := 16) hx hb hts (by decide +kernel) hown hK hP 5 rfl rfl 15 (by decide) (hts (.fieldLink RX12 475 "QueryHall$Session" "openRecords" "I") (by decide +kernel)) (fun _ h9 => h9) rfl dX12_reserve_29 ?_
          refine lv_iadd hx hb dX12_reserve_32 ?_
          refine lv_goto (tgt := 37) hx hb dX12_reserve_33 (by decide) ?_
          refine lv_iadd hx hb dX12_reserve_37 ?_
          refine lv_topi (fun x_21 ex_21 => ?_)
          refine lv_istore_n (lv' := [(1, .int x_21), (2, .int 3), (0, .ref h0)]) hx hb dX12_reserve_38 rfl hl (by decide) rfl (fun ls hl => ?_)
          refine lv_iinc (v := 4) (lv' := [(2, .int 4), (1, .int x_21), (0, .ref h0)]) hx hb dX12_reserve_39 hl (k := 1) rfl (by decide) (by decide) rfl (fun ls hl => ?_)
          refine lv_goto (tgt := 4) hx hb dX12_reserve_42 (by decide) ?_
          refine lv_iload_n hx hb dX12_reserve_4 rfl (lv_at hl 0 rfl) ?_
          refine lv_iconst (v := 4) hx hb dX12_reserve_5 (by decide) ?_
          refine lv_icmp_ge (tgt := 45) hx hb dX12_reserve_6 (by decide) (fun _ => ?_) (fun c_22 => absurd (by decide) c_22)
          refine lv_iload_n hx hb dX12_reserve_45 rfl (lv_at hl 1 rfl) ?_
          have hP9 := hP.sub (ws' := [(h0, .inr (17, [.ref ss, .ref tb, .ref pa, .ref ck, .ref ev, .ref pn, .ref lk, .ref jo, .ref orw, .ref nrw, .int g10, .int g11, .int g12, .int g13, .int g14, .int g15])), (ss, .inl (cSs, 4, .inr (.inr (.inr (.inr sf))))), (a0, .inr (15, [.ref tx0, .ref cd0, .ref ca0, .ref pl0, .int f4_0, .int f5_0, .int f6_0, .int f7_0, .int f8_0, .int f9_0, .int f10_0, .int f11_0, .int f12_0, .int f13_0, .int f14_0, .int f15_0])), (a1, .inr (15, [.ref tx1, .ref cd1, .ref ca1, .ref pl1, .int f4_1, .int f5_1, .int f6_1, .int f7_1, .int f8_1, .int f9_1, .int f10_1, .int f11_1, .int f12_1, .int f13_1, .int f14_1, .int f15_1])), (a2, .inr (15, [.ref tx2, .ref cd2, .ref ca2, .ref pl2, .int f4_2, .int f5_2, .int f6_2, .int f7_2, .int f8_2, .int f9_2, .int f10_2, .int f11_2, .int f12_2, .int f13_2, .int f14_2, .int f15_2])), (a3, .inr (15, [.ref tx3, .ref cd3, .ref ca3, .ref pl3, .int f4_3, .int f5_3, .int f6_3, .int f7_3, .int f8_3, .int f9_3, .int f10_3, .int f11_3, .int f12_3, .int f13_3, .int f14_3, .int f15_3]))]) [0, 1, 2, 3, 4, 5] rfl
          have hD9 := hD.sub (ws' := [(h0, .inr (17, [.ref ss, .ref tb, .ref pa, .ref ck, .ref ev, .ref pn, .ref lk, .ref jo, .ref orw, .ref nrw, .int g10, .int g11, .int g12, .int g13, .int g14, .int g15])), (ss, .inl (cSs, 4, .inr (.inr (.inr (.inr sf))))), (a0, .inr (15, [.ref tx0, .ref cd0, .ref ca0, .ref pl0, .int f4_0, .int f5_0, .int f6_0, .int f7_0, .int f8_0, .int f9_0, .int f10_0, .int f11_0, .int f12_0, .int f13_0, .int f14_0, .int f15_0])), (a1, .inr (15, [.ref tx1, .ref cd1, .ref ca1, .ref pl1, .int f4_1, .int f5_1, .int f6_1, .int f7_1, .int f8_1, .int f9_1, .int f10_1, .int f11_1, .int f12_1, .int f13_1, .int f14_1, .int f15_1])), (a2, .inr (15, [.ref tx2, .ref cd2, .ref ca2, .ref pl2, .int f4_2, .int f5_2, .int f6_2, .int f7_2, .int f8_2, .int f9_2, .int f10_2, .int f11_2, .int f12_2, .int f13_2, .int f14_2, .int f15_2])), (a3, .inr (15, [.ref tx3, .ref cd3, .ref ca3, .ref pl3, .int f4_3, .int f5_3, .int f6_3, .int f7_3, .int f8_3, .int f9_3, .int f10_3, .int f11_3, .int f12_3, .int f13_3, .int f14_3, .int f15_3]))]) [0, 1, 2, 3, 4, 5] (by decide) rfl
          have hK9 := hK.sub (tys' := [(cSs, .object RX10)]) [0] rfl
          exact W.iret (v := x_21) hx hb hr (fun t ht hW => ⟨⟨x_21, (), rfl, (by subst_vars; try (first | rw [if_pos c_2] | rw [if_neg c_2]); try (first | rw [if_pos c_5] | rw [if_neg c_5]); try (first | rw [if_pos c_8] | rw [if_neg c_8]); try (first | rw [if_pos c_18] | rw [if_neg c_18]); try rfl), by rw [ht]; exact hP9, va_K.moved hW.alike hK9, hD9⟩, hS.F ht⟩) hS.2.2 dX12_reserve_46
    · skip
      refine lv_iconst (v := 1) hx hb dX12_reserve_22 (by decide) ?_
      refine lv_aload_n hx hb dX12_reserve_23 rfl (lv_at hl 2 rfl) ?_
      refine va_get (D := (dC, dI)) (ci := 17) (v := .ref ss) (C := RX12) (T := TX12) (N := 16) hx hb hts (by decide +kernel) hown hK hP 0 rfl rfl 0 (by decide) (hts (.fieldLink RX12 11 "QueryHall" "sessions" "[LQueryHall$Session;") (by decide +kernel)) (fun _ h9 => h9) rfl dX12_reserve_24 ?_
      refine lv_iload_n hx hb dX12_reserve_27 rfl (lv_at hl 0 rfl) ?_
      refine va_aldq hx hb hK hP 1 0 rfl rfl (show ¬ ((1 : Int32) < 0 ∨ 4 ≤ (1 : Int32).toNatClampNeg) by decide) dX12_reserve_28 ?_
      refine W.eq (g2 := F0 m 29 ls [.ref a1, .int 1, .int x_3]) (by rw [show (1 : Int32).toNatClampNeg = 1 from rfl, hs1]; rfl) ?_
      refine va_get (D := (dC, dI)) (ci := 15) (v := .int f15_1) (C := RX10) (T := TX10) (N := 16) hx hb hts (by decide +kernel) hown hK hP 3 rfl rfl 15 (by decide) (hts (.fieldLink RX12 475 "QueryHall$Session" "openRecords" "I") (by decide +kernel)) (fun _ h9 => h9) rfl dX12_reserve_29 ?_
      refine lv_iadd hx hb dX12_reserve_32 ?_
      refine lv_goto (tgt := 37) hx hb dX12_reserve_33 (by decide) ?_
      refine lv_iadd hx hb dX12_reserve_37 ?_
      refine lv_topi (fun x_23 ex_23 => ?_)
      refine lv_istore_n (lv' := [(1, .int x_23), (2, .int 1), (0, .ref h0)]) hx hb dX12_reserve_38 rfl hl (by decide) rfl (fun ls hl => ?_)
      refine lv_iinc (v := 2) (lv' := [(2, .int 2), (1, .int x_23), (0, .ref h0)]) hx hb dX12_reserve_39 hl (k := 1) rfl (by decide) (by decide) rfl (fun ls hl => ?_)
      refine lv_goto (tgt := 4) hx hb dX12_reserve_42 (by decide) ?_
      refine lv_iload_n hx hb dX12_reserve_4 rfl (lv_at hl 0 rfl) ?_
      refine lv_iconst (v := 4) hx hb dX12_reserve_5 (by decide) ?_
      refine lv_icmp_ge (tgt := 45) hx hb dX12_reserve_6 (by decide) (fun c_24 => absurd c_24 (by decide)) (fun _ => ?_)
      refine lv_iload_n hx hb dX12_reserve_9 rfl (lv_at hl 1 rfl) ?_
      refine lv_aload_n hx hb dX12_reserve_10 rfl (lv_at hl 2 rfl) ?_
      refine va_get (D := (dC, dI)) (ci := 17) (v := .ref ss) (C := RX12) (T := TX12) (N := 16) hx hb hts (by decide +kernel) hown hK hP 0 rfl rfl 0 (by decide) (hts (.fieldLink RX12 11 "QueryHall" "sessions" "[LQueryHall$Session;") (by decide +kernel)) (fun _ h9 => h9) rfl dX12_reserve_11 ?_
      refine lv_iload_n hx hb dX12_reserve_14 rfl (lv_at hl 0 rfl) ?_
      refine va_aldq hx hb hK hP 1 0 rfl rfl (show ¬ ((2 : Int32) < 0 ∨ 4 ≤ (2 : Int32).toNatClampNeg) by decide) dX12_reserve_15 ?_
      refine W.eq (g2 := F0 m 16 ls [.ref a2, .int x_23]) (by rw [show (2 : Int32).toNatClampNeg = 2 from rfl, hs2]; rfl) ?_
      refine va_get (D := (dC, dI)) (ci := 15) (v := .int f13_2) (C := RX10) (T := TX10) (N := 16) hx hb hts (by decide +kernel) hown hK hP 4 rfl rfl 13 (by decide) (hts (.fieldLink RX12 250 "QueryHall$Session" "begin" "I") (by decide +kernel)) (fun _ h9 => h9) rfl dX12_reserve_16 ?_
      refine lv_if_le (tgt := 36) hx hb dX12_reserve_19 (by decide) (fun c_25 => ?_) (fun c_25 => ?_)
      · skip
        refine lv_iconst (v := 0) hx hb dX12_reserve_36 (by decide) ?_
        refine lv_iadd hx hb dX12_reserve_37 ?_
        refine lv_topi (fun x_26 ex_26 => ?_)
        refine lv_istore_n (lv' := [(1, .int x_26), (2, .int 2), (0, .ref h0)]) hx hb dX12_reserve_38 rfl hl (by decide) rfl (fun ls hl => ?_)
        refine lv_iinc (v := 3) (lv' := [(2, .int 3), (1, .int x_26), (0, .ref h0)]) hx hb dX12_reserve_39 hl (k := 1) rfl (by decide) (by decide) rfl (fun ls hl => ?_)
        refine lv_goto (tgt := 4) hx hb dX12_reserve_42 (by decide) ?_
        refine lv_iload_n hx hb dX12_reserve_4 rfl (lv_at hl 0 rfl) ?_
        refine lv_iconst (v := 4) hx hb dX12_reserve_5 (by decide) ?_
        refine lv_icmp_ge (tgt := 45) hx hb dX12_reserve_6 (by decide) (fun c_27 => absurd c_27 (by decide)) (fun _ => ?_)
        refine lv_iload_n hx hb dX12_reserve_9 rfl (lv_at hl 1 rfl) ?_
        refine lv_aload_n hx hb dX12_reserve_10 rfl (lv_at hl 2 rfl) ?_
        refine va_get (D := (dC, dI)) (ci := 17) (v := .ref ss) (C := RX12) (T := TX12) (N := 16) hx hb hts (by decide +kernel) hown hK hP 0 rfl rfl 0 (by decide) (hts (.fieldLink RX12 11 "QueryHall" "sessions" "[LQueryHall$Session;") (by decide +kernel)) (fun _ h9 => h9) rfl dX12_reserve_11 ?_
        refine lv_iload_n hx hb dX12_reserve_14 rfl (lv_at hl 0 rfl) ?_
        refine va_aldq hx hb hK hP 1 0 rfl rfl (show ¬ ((3 : Int32) < 0 ∨ 4 ≤ (3 : Int32).toNatClampNeg) by decide) dX12_reserve_15 ?_
        refine W.eq (g2 := F0 m 16 ls [.ref a3, .int x_26]) (by rw [show (3 : Int32).toNatClampNeg = 3 from rfl, hs3]; rfl) ?_
        refine va_get (D := (dC, dI)) (ci := 15) (v := .int f13_3) (C := RX10) (T := TX10) (N := 16) hx hb hts (by decide +kernel) hown hK hP 5 rfl rfl 13 (by decide) (hts (.fieldLink RX12 250 "QueryHall$Session" "begin" "I") (by decide +kernel)) (fun _ h9 => h9) rfl dX12_reserve_16 ?_
        refine lv_if_le (tgt := 36) hx hb dX12_reserve_19 (by decide) (fun c_28 => ?_) (fun c_28 => ?_)
        · skip
          refine lv_iconst (v := 0) hx hb dX12_reserve_36 (by decide) ?_
          refine lv_iadd hx hb dX12_reserve_37 ?_
          refine lv_topi (fun x_29 ex_29 => ?_)
          refine lv_istore_n (lv' := [(1, .int x_29), (2, .int 3), (0, .ref h0)]) hx hb dX12_reserve_38 rfl hl (by decide) rfl (fun ls hl => ?_)
          refine lv_iinc (v := 4) (lv' := [(2, .int 4), (1, .int x_29), (0, .ref h0)]) hx hb dX12_reserve_39 hl (k := 1) rfl (by decide) (by decide) rfl (fun ls hl => ?_)
          refine lv_goto (tgt := 4) hx hb dX12_reserve_42 (by decide) ?_
          refine lv_iload_n hx hb dX12_reserve_4 rfl (lv_at hl 0 rfl) ?_
          refine lv_iconst (v := 4) hx hb dX12_reserve_5 (by decide) ?_
          refine lv_icmp_ge (tgt := 45) hx hb dX12_reserve_6 (by decide) (fun _ => ?_) (fun c_30 => absurd (by decide) c_30)
          refine lv_iload_n hx hb dX12_reserve_45 rfl (lv_at hl 1 rfl) ?_
          have hP9 := hP.sub (ws' := [(h0, .inr (17, [.ref ss, .ref tb, .ref pa, .ref ck, .ref ev, .ref pn, .ref lk, .ref jo, .ref orw, .ref nrw, .int g10, .int g11, .int g12, .int g13, .int g14, .int g15])), (ss, .inl (cSs, 4, .inr (.inr (.inr (.inr sf))))), (a0, .inr (15, [.ref tx0, .ref cd0, .ref ca0, .ref pl0, .int f4_0, .int f5_0, .int f6_0, .int f7_0, .int f8_0, .int f9_0, .int f10_0, .int f11_0, .int f12_0, .int f13_0, .int f14_0, .int f15_0])), (a1, .inr (15, [.ref tx1, .ref cd1, .ref ca1, .ref pl1, .int f4_1, .int f5_1, .int f6_1, .int f7_1, .int f8_1, .int f9_1, .int f10_1, .int f11_1, .int f12_1, .int f13_1, .int f14_1, .int f15_1])), (a2, .inr (15, [.ref tx2, .ref cd2, .ref ca2, .ref pl2, .int f4_2, .int f5_2, .int f6_2, .int f7_2, .int f8_2, .int f9_2, .int f10_2, .int f11_2, .int f12_2, .int f13_2, .int f14_2, .int f15_2])), (a3, .inr (15, [.ref tx3, .ref cd3, .ref ca3, .ref pl3, .int f4_3, .int f5_3, .int f6_3, .int f7_3, .int f8_3, .int f9_3, .int f10_3, .int f11_3, .int f12_3, .int f13_3, .int f14_3, .int f15_3]))]) [0, 1, 2, 3, 4, 5] rfl
          have hD9 := hD.sub (ws' := [(h0, .inr (17, [.ref ss, .ref tb, .ref pa, .ref ck, .ref ev, .ref pn, .ref lk, .ref jo, .ref orw, .ref nrw, .int g10, .int g11, .int g12, .int g13, .int g14, .int g15])), (ss, .inl (cSs, 4, .inr (.inr (.inr (.inr sf))))), (a0, .inr (15, [.ref tx0, .ref cd0, .ref ca0, .ref pl0, .int f4_0, .int f5_0, .int f6_0, .int f7_0, .int f8_0, .int f9_0, .int f10_0, .int f11_0, .int f12_0, .int f13_0, .int f14_0, .int f15_0])), (a1, .inr (15, [.ref tx1, .ref cd1, .ref ca1, .ref pl1, .int f4_1, .int f5_1, .int f6_1, .int f7_1, .int f8_1, .int f9_1, .int f10_1, .int f11_1, .int f12_1, .int f13_1, .int f14_1, .int f15_1])), (a2, .inr (15, [.ref tx2, .ref cd2, .ref ca2, .ref pl2, .int f4_2, .int f5_2, .int f6_2, .int f7_2, .int f8_2, .int f9_2, .int f10_2, .int f11_2, .int f12_2, .int f13_2, .int f14_2, .int f15_2])), (a3, .inr (15, [.ref tx3, .ref cd3, .ref ca3, .ref pl3, .int f4_3, .int f5_3, .int f6_3, .int f7_3, .int f8_3, .int f9_3, .int f10_3, .int f11_3, .int f12_3, .int f13_3, .int f14_3, .int f15_3]))]) [0, 1, 2, 3, 4, 5] (by decide) rfl
          have hK9 := hK.sub (tys' := [(cSs, .object RX10)]) [0] rfl
          exact W.iret (v := x_29) hx hb hr (fun t ht hW => ⟨⟨x_29, (), rfl, (by subst_vars; try (first | rw [if_pos c_2] | rw [if_neg c_2]); try (first | rw [if_pos c_5] | rw [if_neg c_5]); try (first | rw [if_pos c_25] | rw [if_neg c_25]); try (first | rw [if_pos c_28] | rw [if_neg c_28]); try rfl), by rw [ht]; exact hP9, va_K.moved hW.alike hK9, hD9⟩, hS.F ht⟩) hS.2.2 dX12_reserve_46
        · skip
          refine lv_iconst (v := 1) hx hb dX12_reserve_22 (by decide) ?_
          refine lv_aload_n hx hb dX12_reserve_23 rfl (lv_at hl 2 rfl) ?_
          refine va_get (D := (dC, dI)) (ci := 17) (v := .ref ss) (C := RX12) (T := TX12) (N := 16) hx hb hts (by decide +kernel) hown hK hP 0 rfl rfl 0 (by decide) (hts (.fieldLink RX12 11 "QueryHall" "sessions" "[LQueryHall$Session;") (by decide +kernel)) (fun _ h9 => h9) rfl dX12_reserve_24 ?_
          refine lv_iload_n hx hb dX12_reserve_27 rfl (lv_at hl 0 rfl) ?_
          refine va_aldq hx hb hK hP 1 0 rfl rfl (show ¬ ((3 : Int32) < 0 ∨ 4 ≤ (3 : Int32).toNatClampNeg) by decide) dX12_reserve_28 ?_
          refine W.eq (g2 := F0 m 29 ls [.ref a3, .int 1, .int x_26]) (by rw [show (3 : Int32).toNatClampNeg = 3 from rfl, hs3]; rfl) ?_
          refine va_get (D := (dC, dI)) (ci := 15) (v := .int f15_3) (C := RX10) (T := TX10) (N := 16) hx hb hts (by decide +kernel) hown hK hP 5 rfl rfl 15 (by decide) (hts (.fieldLink RX12 475 "QueryHall$Session" "openRecords" "I") (by decide +kernel)) (fun _ h9 => h9) rfl dX12_reserve_29 ?_
          refine lv_iadd hx hb dX12_reserve_32 ?_
          refine lv_goto (tgt := 37) hx hb dX12_reserve_33 (by decide) ?_
          refine lv_iadd hx hb dX12_reserve_37 ?_
          refine lv_topi (fun x_31 ex_31 => ?_)
          refine lv_istore_n (lv' := [(1, .int x_31), (2, .int 3), (0, .ref h0)]) hx hb dX12_reserve_38 rfl hl (by decide) rfl (fun ls hl => ?_)
          refine lv_iinc (v := 4) (lv' := [(2, .int 4), (1, .int x_31), (0, .ref h0)]) hx hb dX12_reserve_39 hl (k := 1) rfl (by decide) (by decide) rfl (fun ls hl => ?_)
          refine lv_goto (tgt := 4) hx hb dX12_reserve_42 (by decide) ?_
          refine lv_iload_n hx hb dX12_reserve_4 rfl (lv_at hl 0 rfl) ?_
          refine lv_iconst (v := 4) hx hb dX12_reserve_5 (by decide) ?_
          refine lv_icmp_ge (tgt := 45) hx hb dX12_reserve_6 (by decide) (fun _ => ?_) (fun c_32 => absurd (by decide) c_32)
          refine lv_iload_n hx hb dX12_reserve_45 rfl (lv_at hl 1 rfl) ?_
          have hP9 := hP.sub (ws' := [(h0, .inr (17, [.ref ss, .ref tb, .ref pa, .ref ck, .ref ev, .ref pn, .ref lk, .ref jo, .ref orw, .ref nrw, .int g10, .int g11, .int g12, .int g13, .int g14, .int g15])), (ss, .inl (cSs, 4, .inr (.inr (.inr (.inr sf))))), (a0, .inr (15, [.ref tx0, .ref cd0, .ref ca0, .ref pl0, .int f4_0, .int f5_0, .int f6_0, .int f7_0, .int f8_0, .int f9_0, .int f10_0, .int f11_0, .int f12_0, .int f13_0, .int f14_0, .int f15_0])), (a1, .inr (15, [.ref tx1, .ref cd1, .ref ca1, .ref pl1, .int f4_1, .int f5_1, .int f6_1, .int f7_1, .int f8_1, .int f9_1, .int f10_1, .int f11_1, .int f12_1, .int f13_1, .int f14_1, .int f15_1])), (a2, .inr (15, [.ref tx2, .ref cd2, .ref ca2, .ref pl2, .int f4_2, .int f5_2, .int f6_2, .int f7_2, .int f8_2, .int f9_2, .int f10_2, .int f11_2, .int f12_2, .int f13_2, .int f14_2, .int f15_2])), (a3, .inr (15, [.ref tx3, .ref cd3, .ref ca3, .ref pl3, .int f4_3, .int f5_3, .int f6_3, .int f7_3, .int f8_3, .int f9_3, .int f10_3, .int f11_3, .int f12_3, .int f13_3, .int f14_3, .int f15_3]))]) [0, 1, 2, 3, 4, 5] rfl
          have hD9 := hD.sub (ws' := [(h0, .inr (17, [.ref ss, .ref tb, .ref pa, .ref ck, .ref ev, .ref pn, .ref lk, .ref jo, .ref orw, .ref nrw, .int g10, .int g11, .int g12, .int g13, .int g14, .int g15])), (ss, .inl (cSs, 4, .inr (.inr (.inr (.inr sf))))), (a0, .inr (15, [.ref tx0, .ref cd0, .ref ca0, .ref pl0, .int f4_0, .int f5_0, .int f6_0, .int f7_0, .int f8_0, .int f9_0, .int f10_0, .int f11_0, .int f12_0, .int f13_0, .int f14_0, .int f15_0])), (a1, .inr (15, [.ref tx1, .ref cd1, .ref ca1, .ref pl1, .int f4_1, .int f5_1, .int f6_1, .int f7_1, .int f8_1, .int f9_1, .int f10_1, .int f11_1, .int f12_1, .int f13_1, .int f14_1, .int f15_1])), (a2, .inr (15, [.ref tx2, .ref cd2, .ref ca2, .ref pl2, .int f4_2, .int f5_2, .int f6_2, .int f7_2, .int f8_2, .int f9_2, .int f10_2, .int f11_2, .int f12_2, .int f13_2, .int f14_2, .int f15_2])), (a3, .inr (15, [.ref tx3, .ref cd3, .ref ca3, .ref pl3, .int f4_3, .int f5_3, .int f6_3, .int f7_3, .int f8_3, .int f9_3, .int f10_3, .int f11_3, .int f12_3, .int f13_3, .int f14_3, .int f15_3]))]) [0, 1, 2, 3, 4, 5] (by decide) rfl
          have hK9 := hK.sub (tys' := [(cSs, .object RX10)]) [0] rfl
          exact W.iret (v := x_31) hx hb hr (fun t ht hW => ⟨⟨x_31, (), rfl, (by subst_vars; try (first | rw [if_pos c_2] | rw [if_neg c_2]); try (first | rw [if_pos c_5] | rw [if_neg c_5]); try (first | rw [if_pos c_25] | rw [if_neg c_25]); try (first | rw [if_pos c_28] | rw [if_neg c_28]); try rfl), by rw [ht]; exact hP9, va_K.moved hW.alike hK9, hD9⟩, hS.F ht⟩) hS.2.2 dX12_reserve_46
      · skip
        refine lv_iconst (v := 1) hx hb dX12_reserve_22 (by decide) ?_
        refine lv_aload_n hx hb dX12_reserve_23 rfl (lv_at hl 2 rfl) ?_
        refine va_get (D := (dC, dI)) (ci := 17) (v := .ref ss) (C := RX12) (T := TX12) (N := 16) hx hb hts (by decide +kernel) hown hK hP 0 rfl rfl 0 (by decide) (hts (.fieldLink RX12 11 "QueryHall" "sessions" "[LQueryHall$Session;") (by decide +kernel)) (fun _ h9 => h9) rfl dX12_reserve_24 ?_
        refine lv_iload_n hx hb dX12_reserve_27 rfl (lv_at hl 0 rfl) ?_
        refine va_aldq hx hb hK hP 1 0 rfl rfl (show ¬ ((2 : Int32) < 0 ∨ 4 ≤ (2 : Int32).toNatClampNeg) by decide) dX12_reserve_28 ?_
        refine W.eq (g2 := F0 m 29 ls [.ref a2, .int 1, .int x_23]) (by rw [show (2 : Int32).toNatClampNeg = 2 from rfl, hs2]; rfl) ?_
        refine va_get (D := (dC, dI)) (ci := 15) (v := .int f15_2) (C := RX10) (T := TX10) (N := 16) hx hb hts (by decide +kernel) hown hK hP 4 rfl rfl 15 (by decide) (hts (.fieldLink RX12 475 "QueryHall$Session" "openRecords" "I") (by decide +kernel)) (fun _ h9 => h9) rfl dX12_reserve_29 ?_
        refine lv_iadd hx hb dX12_reserve_32 ?_
        refine lv_goto (tgt := 37) hx hb dX12_reserve_33 (by decide) ?_
        refine lv_iadd hx hb dX12_reserve_37 ?_
        refine lv_topi (fun x_33 ex_33 => ?_)
        refine lv_istore_n (lv' := [(1, .int x_33), (2, .int 2), (0, .ref h0)]) hx hb dX12_reserve_38 rfl hl (by decide) rfl (fun ls hl => ?_)
        refine lv_iinc (v := 3) (lv' := [(2, .int 3), (1, .int x_33), (0, .ref h0)]) hx hb dX12_reserve_39 hl (k := 1) rfl (by decide) (by decide) rfl (fun ls hl => ?_)
        refine lv_goto (tgt := 4) hx hb dX12_reserve_42 (by decide) ?_
        refine lv_iload_n hx hb dX12_reserve_4 rfl (lv_at hl 0 rfl) ?_
        refine lv_iconst (v := 4) hx hb dX12_reserve_5 (by decide) ?_
        refine lv_icmp_ge (tgt := 45) hx hb dX12_reserve_6 (by decide) (fun c_34 => absurd c_34 (by decide)) (fun _ => ?_)
        refine lv_iload_n hx hb dX12_reserve_9 rfl (lv_at hl 1 rfl) ?_
        refine lv_aload_n hx hb dX12_reserve_10 rfl (lv_at hl 2 rfl) ?_
        refine va_get (D := (dC, dI)) (ci := 17) (v := .ref ss) (C := RX12) (T := TX12) (N := 16) hx hb hts (by decide +kernel) hown hK hP 0 rfl rfl 0 (by decide) (hts (.fieldLink RX12 11 "QueryHall" "sessions" "[LQueryHall$Session;") (by decide +kernel)) (fun _ h9 => h9) rfl dX12_reserve_11 ?_
        refine lv_iload_n hx hb dX12_reserve_14 rfl (lv_at hl 0 rfl) ?_
        refine va_aldq hx hb hK hP 1 0 rfl rfl (show ¬ ((3 : Int32) < 0 ∨ 4 ≤ (3 : Int32).toNatClampNeg) by decide) dX12_reserve_15 ?_
        refine W.eq (g2 := F0 m 16 ls [.ref a3, .int x_33]) (by rw [show (3 : Int32).toNatClampNeg = 3 from rfl, hs3]; rfl) ?_
        refine va_get (D := (dC, dI)) (ci := 15) (v := .int f13_3) (C := RX10) (T := TX10) (N := 16) hx hb hts (by decide +kernel) hown hK hP 5 rfl rfl 13 (by decide) (hts (.fieldLink RX12 250 "QueryHall$Session" "begin" "I") (by decide +kernel)) (fun _ h9 => h9) rfl dX12_reserve_16 ?_
        refine lv_if_le (tgt := 36) hx hb dX12_reserve_19 (by decide) (fun c_35 => ?_) (fun c_35 => ?_)
        · skip
          refine lv_iconst (v := 0) hx hb dX12_reserve_36 (by decide) ?_
          refine lv_iadd hx hb dX12_reserve_37 ?_
          refine lv_topi (fun x_36 ex_36 => ?_)
          refine lv_istore_n (lv' := [(1, .int x_36), (2, .int 3), (0, .ref h0)]) hx hb dX12_reserve_38 rfl hl (by decide) rfl (fun ls hl => ?_)
          refine lv_iinc (v := 4) (lv' := [(2, .int 4), (1, .int x_36), (0, .ref h0)]) hx hb dX12_reserve_39 hl (k := 1) rfl (by decide) (by decide) rfl (fun ls hl => ?_)
          refine lv_goto (tgt := 4) hx hb dX12_reserve_42 (by decide) ?_
          refine lv_iload_n hx hb dX12_reserve_4 rfl (lv_at hl 0 rfl) ?_
          refine lv_iconst (v := 4) hx hb dX12_reserve_5 (by decide) ?_
          refine lv_icmp_ge (tgt := 45) hx hb dX12_reserve_6 (by decide) (fun _ => ?_) (fun c_37 => absurd (by decide) c_37)
          refine lv_iload_n hx hb dX12_reserve_45 rfl (lv_at hl 1 rfl) ?_
          have hP9 := hP.sub (ws' := [(h0, .inr (17, [.ref ss, .ref tb, .ref pa, .ref ck, .ref ev, .ref pn, .ref lk, .ref jo, .ref orw, .ref nrw, .int g10, .int g11, .int g12, .int g13, .int g14, .int g15])), (ss, .inl (cSs, 4, .inr (.inr (.inr (.inr sf))))), (a0, .inr (15, [.ref tx0, .ref cd0, .ref ca0, .ref pl0, .int f4_0, .int f5_0, .int f6_0, .int f7_0, .int f8_0, .int f9_0, .int f10_0, .int f11_0, .int f12_0, .int f13_0, .int f14_0, .int f15_0])), (a1, .inr (15, [.ref tx1, .ref cd1, .ref ca1, .ref pl1, .int f4_1, .int f5_1, .int f6_1, .int f7_1, .int f8_1, .int f9_1, .int f10_1, .int f11_1, .int f12_1, .int f13_1, .int f14_1, .int f15_1])), (a2, .inr (15, [.ref tx2, .ref cd2, .ref ca2, .ref pl2, .int f4_2, .int f5_2, .int f6_2, .int f7_2, .int f8_2, .int f9_2, .int f10_2, .int f11_2, .int f12_2, .int f13_2, .int f14_2, .int f15_2])), (a3, .inr (15, [.ref tx3, .ref cd3, .ref ca3, .ref pl3, .int f4_3, .int f5_3, .int f6_3, .int f7_3, .int f8_3, .int f9_3, .int f10_3, .int f11_3, .int f12_3, .int f13_3, .int f14_3, .int f15_3]))]) [0, 1, 2, 3, 4, 5] rfl
          have hD9 := hD.sub (ws' := [(h0, .inr (17, [.ref ss, .ref tb, .ref pa, .ref ck, .ref ev, .ref pn, .ref lk, .ref jo, .ref orw, .ref nrw, .int g10, .int g11, .int g12, .int g13, .int g14, .int g15])), (ss, .inl (cSs, 4, .inr (.inr (.inr (.inr sf))))), (a0, .inr (15, [.ref tx0, .ref cd0, .ref ca0, .ref pl0, .int f4_0, .int f5_0, .int f6_0, .int f7_0, .int f8_0, .int f9_0, .int f10_0, .int f11_0, .int f12_0, .int f13_0, .int f14_0, .int f15_0])), (a1, .inr (15, [.ref tx1, .ref cd1, .ref ca1, .ref pl1, .int f4_1, .int f5_1, .int f6_1, .int f7_1, .int f8_1, .int f9_1, .int f10_1, .int f11_1, .int f12_1, .int f13_1, .int f14_1, .int f15_1])), (a2, .inr (15, [.ref tx2, .ref cd2, .ref ca2, .ref pl2, .int f4_2, .int f5_2, .int f6_2, .int f7_2, .int f8_2, .int f9_2, .int f10_2, .int f11_2, .int f12_2, .int f13_2, .int f14_2, .int f15_2])), (a3, .inr (15, [.ref tx3, .ref cd3, .ref ca3, .ref pl3, .int f4_3, .int f5_3, .int f6_3, .int f7_3, .int f8_3, .int f9_3, .int f10_3, .int f11_3, .int f12_3, .int f13_3, .int f14_3, .int f15_3]))]) [0, 1, 2, 3, 4, 5] (by decide) rfl
          have hK9 := hK.sub (tys' := [(cSs, .object RX10)]) [0] rfl
          exact W.iret (v := x_36) hx hb hr (fun t ht hW => ⟨⟨x_36, (), rfl, (by subst_vars; try (first | rw [if_pos c_2] | rw [if_neg c_2]); try (first | rw [if_pos c_5] | rw [if_neg c_5]); try (first | rw [if_pos c_25] | rw [if_neg c_25]); try (first | rw [if_pos c_35] | rw [if_neg c_35]); try rfl), by rw [ht]; exact hP9, va_K.moved hW.alike hK9, hD9⟩, hS.F ht⟩) hS.2.2 dX12_reserve_46
        · skip
          refine lv_iconst (v := 1) hx hb dX12_reserve_22 (by decide) ?_
          refine lv_aload_n hx hb dX12_reserve_23 rfl (lv_at hl 2 rfl) ?_
          refine va_get (D := (dC, dI)) (ci := 17) (v := .ref ss) (C := RX12) (T := TX12) (N := 16) hx hb hts (by decide +kernel) hown hK hP 0 rfl rfl 0 (by decide) (hts (.fieldLink RX12 11 "QueryHall" "sessions" "[LQueryHall$Session;") (by decide +kernel)) (fun _ h9 => h9) rfl dX12_reserve_24 ?_
          refine lv_iload_n hx hb dX12_reserve_27 rfl (lv_at hl 0 rfl) ?_
          refine va_aldq hx hb hK hP 1 0 rfl rfl (show ¬ ((3 : Int32) < 0 ∨ 4 ≤ (3 : Int32).toNatClampNeg) by decide) dX12_reserve_28 ?_
          refine W.eq (g2 := F0 m 29 ls [.ref a3, .int 1, .int x_33]) (by rw [show (3 : Int32).toNatClampNeg = 3 from rfl, hs3]; rfl) ?_
          refine va_get (D := (dC, dI)) (ci := 15) (v := .int f15_3) (C := RX10) (T := TX10) (N := 16) hx hb hts (by decide +kernel) hown hK hP 5 rfl rfl 15 (by decide) (hts (.fieldLink RX12 475 "QueryHall$Session" "openRecords" "I") (by decide +kernel)) (fun _ h9 => h9) rfl dX12_reserve_29 ?_
          refine lv_iadd hx hb dX12_reserve_32 ?_
          refine lv_goto (tgt := 37) hx hb dX12_reserve_33 (by decide) ?_
          refine lv_iadd hx hb dX12_reserve_37 ?_
          refine lv_topi (fun x_38 ex_38 => ?_)
          refine lv_istore_n (lv' := [(1, .int x_38), (2, .int 3), (0, .ref h0)]) hx hb dX12_reserve_38 rfl hl (by decide) rfl (fun ls hl => ?_)
          refine lv_iinc (v := 4) (lv' := [(2, .int 4), (1, .int x_38), (0, .ref h0)]) hx hb dX12_reserve_39 hl (k := 1) rfl (by decide) (by decide) rfl (fun ls hl => ?_)
          refine lv_goto (tgt := 4) hx hb dX12_reserve_42 (by decide) ?_
          refine lv_iload_n hx hb dX12_reserve_4 rfl (lv_at hl 0 rfl) ?_
          refine lv_iconst (v := 4) hx hb dX12_reserve_5 (by decide) ?_
          refine lv_icmp_ge (tgt := 45) hx hb dX12_reserve_6 (by decide) (fun _ => ?_) (fun c_39 => absurd (by decide) c_39)
          refine lv_iload_n hx hb dX12_reserve_45 rfl (lv_at hl 1 rfl) ?_
          have hP9 := hP.sub (ws' := [(h0, .inr (17, [.ref ss, .ref tb, .ref pa, .ref ck, .ref ev, .ref pn, .ref lk, .ref jo, .ref orw, .ref nrw, .int g10, .int g11, .int g12, .int g13, .int g14, .int g15])), (ss, .inl (cSs, 4, .inr (.inr (.inr (.inr sf))))), (a0, .inr (15, [.ref tx0, .ref cd0, .ref ca0, .ref pl0, .int f4_0, .int f5_0, .int f6_0, .int f7_0, .int f8_0, .int f9_0, .int f10_0, .int f11_0, .int f12_0, .int f13_0, .int f14_0, .int f15_0])), (a1, .inr (15, [.ref tx1, .ref cd1, .ref ca1, .ref pl1, .int f4_1, .int f5_1, .int f6_1, .int f7_1, .int f8_1, .int f9_1, .int f10_1, .int f11_1, .int f12_1, .int f13_1, .int f14_1, .int f15_1])), (a2, .inr (15, [.ref tx2, .ref cd2, .ref ca2, .ref pl2, .int f4_2, .int f5_2, .int f6_2, .int f7_2, .int f8_2, .int f9_2, .int f10_2, .int f11_2, .int f12_2, .int f13_2, .int f14_2, .int f15_2])), (a3, .inr (15, [.ref tx3, .ref cd3, .ref ca3, .ref pl3, .int f4_3, .int f5_3, .int f6_3, .int f7_3, .int f8_3, .int f9_3, .int f10_3, .int f11_3, .int f12_3, .int f13_3, .int f14_3, .int f15_3]))]) [0, 1, 2, 3, 4, 5] rfl
          have hD9 := hD.sub (ws' := [(h0, .inr (17, [.ref ss, .ref tb, .ref pa, .ref ck, .ref ev, .ref pn, .ref lk, .ref jo, .ref orw, .ref nrw, .int g10, .int g11, .int g12, .int g13, .int g14, .int g15])), (ss, .inl (cSs, 4, .inr (.inr (.inr (.inr sf))))), (a0, .inr (15, [.ref tx0, .ref cd0, .ref ca0, .ref pl0, .int f4_0, .int f5_0, .int f6_0, .int f7_0, .int f8_0, .int f9_0, .int f10_0, .int f11_0, .int f12_0, .int f13_0, .int f14_0, .int f15_0])), (a1, .inr (15, [.ref tx1, .ref cd1, .ref ca1, .ref pl1, .int f4_1, .int f5_1, .int f6_1, .int f7_1, .int f8_1, .int f9_1, .int f10_1, .int f11_1, .int f12_1, .int f13_1, .int f14_1, .int f15_1])), (a2, .inr (15, [.ref tx2, .ref cd2, .ref ca2, .ref pl2, .int f4_2, .int f5_2, .int f6_2, .int f7_2, .int f8_2, .int f9_2, .int f10_2, .int f11_2, .int f12_2, .int f13_2, .int f14_2, .int f15_2])), (a3, .inr (15, [.ref tx3, .ref cd3, .ref ca3, .ref pl3, .int f4_3, .int f5_3, .int f6_3, .int f7_3, .int f8_3, .int f9_3, .int f10_3, .int f11_3, .int f12_3, .int f13_3, .int f14_3, .int f15_3]))]) [0, 1, 2, 3, 4, 5] (by decide) rfl
          have hK9 := hK.sub (tys' := [(cSs, .object RX10)]) [0] rfl
          exact W.iret (v := x_38) hx hb hr (fun t ht hW => ⟨⟨x_38, (), rfl, (by subst_vars; try (first | rw [if_pos c_2] | rw [if_neg c_2]); try (first | rw [if_pos c_5] | rw [if_neg c_5]); try (first | rw [if_pos c_25] | rw [if_neg c_25]); try (first | rw [if_pos c_35] | rw [if_neg c_35]); try rfl), by rw [ht]; exact hP9, va_K.moved hW.alike hK9, hD9⟩, hS.F ht⟩) hS.2.2 dX12_reserve_46
  · skip
    refine lv_iconst (v := 1) hx hb dX12_reserve_22 (by decide) ?_
    refine lv_aload_n hx hb dX12_reserve_23 rfl (lv_at hl 2 rfl) ?_
    refine va_get (D := (dC, dI)) (ci := 17) (v := .ref ss) (C := RX12) (T := TX12) (N := 16) hx hb hts (by decide +kernel) hown hK hP 0 rfl rfl 0 (by decide) (hts (.fieldLink RX12 11 "QueryHall" "sessions" "[LQueryHall$Session;") (by decide +kernel)) (fun _ h9 => h9) rfl dX12_reserve_24 ?_
    refine lv_iload_n hx hb dX12_reserve_27 rfl (lv_at hl 0 rfl) ?_
    refine va_aldq hx hb hK hP 1 0 rfl rfl (show ¬ ((0 : Int32) < 0 ∨ 4 ≤ (0 : Int32).toNatClampNeg) by decide) dX12_reserve_28 ?_
    refine W.eq (g2 := F0 m 29 ls [.ref a0, .int 1, .int 0]) (by rw [show (0 : Int32).toNatClampNeg = 0 from rfl, hs0]; rfl) ?_
    refine va_get (D := (dC, dI)) (ci := 15) (v := .int f15_0) (C := RX10) (T := TX10) (N := 16) hx hb hts (by decide +kernel) hown hK hP 2 rfl rfl 15 (by decide) (hts (.fieldLink RX12 475 "QueryHall$Session" "openRecords" "I") (by decide +kernel)) (fun _ h9 => h9) rfl dX12_reserve_29 ?_
    refine lv_iadd hx hb dX12_reserve_32 ?_
    refine lv_goto (tgt := 37) hx hb dX12_reserve_33 (by decide) ?_
    refine lv_iadd hx hb dX12_reserve_37 ?_
    refine lv_topi (fun x_40 ex_40 => ?_)
    refine lv_istore_n (lv' := [(1, .int x_40), (2, .int 0), (0, .ref h0)]) hx hb dX12_reserve_38 rfl hl (by decide) rfl (fun ls hl => ?_)
    refine lv_iinc (v := 1) (lv' := [(2, .int 1), (1, .int x_40), (0, .ref h0)]) hx hb dX12_reserve_39 hl (k := 1) rfl (by decide) (by decide) rfl (fun ls hl => ?_)
    refine lv_goto (tgt := 4) hx hb dX12_reserve_42 (by decide) ?_
    refine lv_iload_n hx hb dX12_reserve_4 rfl (lv_at hl 0 rfl) ?_
    refine lv_iconst (v := 4) hx hb dX12_reserve_5 (by decide) ?_
    refine lv_icmp_ge (tgt := 45) hx hb dX12_reserve_6 (by decide) (fun c_41 => absurd c_41 (by decide)) (fun _ => ?_)
    refine lv_iload_n hx hb dX12_reserve_9 rfl (lv_at hl 1 rfl) ?_
    refine lv_aload_n hx hb dX12_reserve_10 rfl (lv_at hl 2 rfl) ?_
    refine va_get (D := (dC, dI)) (ci := 17) (v := .ref ss) (C := RX12) (T := TX12) (N := 16) hx hb hts (by decide +kernel) hown hK hP 0 rfl rfl 0 (by decide) (hts (.fieldLink RX12 11 "QueryHall" "sessions" "[LQueryHall$Session;") (by decide +kernel)) (fun _ h9 => h9) rfl dX12_reserve_11 ?_
    refine lv_iload_n hx hb dX12_reserve_14 rfl (lv_at hl 0 rfl) ?_
    refine va_aldq hx hb hK hP 1 0 rfl rfl (show ¬ ((1 : Int32) < 0 ∨ 4 ≤ (1 : Int32).toNatClampNeg) by decide) dX12_reserve_15 ?_
    refine W.eq (g2 := F0 m 16 ls [.ref a1, .int x_40]) (by rw [show (1 : Int32).toNatClampNeg = 1 from rfl, hs1]; rfl) ?_
    refine va_get (D := (dC, dI)) (ci := 15) (v := .int f13_1) (C := RX10) (T := TX10) (N := 16) hx hb hts (by decide +kernel) hown hK hP 3 rfl rfl 13 (by decide) (hts (.fieldLink RX12 250 "QueryHall$Session" "begin" "I") (by decide +kernel)) (fun _ h9 => h9) rfl dX12_reserve_16 ?_
    refine lv_if_le (tgt := 36) hx hb dX12_reserve_19 (by decide) (fun c_42 => ?_) (fun c_42 => ?_)
    · skip
      refine lv_iconst (v := 0) hx hb dX12_reserve_36 (by decide) ?_
      refine lv_iadd hx hb dX12_reserve_37 ?_
      refine lv_topi (fun x_43 ex_43 => ?_)
      refine lv_istore_n (lv' := [(1, .int x_43), (2, .int 1), (0, .ref h0)]) hx hb dX12_reserve_38 rfl hl (by decide) rfl (fun ls hl => ?_)
      refine lv_iinc (v := 2) (lv' := [(2, .int 2), (1, .int x_43), (0, .ref h0)]) hx hb dX12_reserve_39 hl (k := 1) rfl (by decide) (by decide) rfl (fun ls hl => ?_)
      refine lv_goto (tgt := 4) hx hb dX12_reserve_42 (by decide) ?_
      refine lv_iload_n hx hb dX12_reserve_4 rfl (lv_at hl 0 rfl) ?_
      refine lv_iconst (v := 4) hx hb dX12_reserve_5 (by decide) ?_
      refine lv_icmp_ge (tgt := 45) hx hb dX12_reserve_6 (by decide) (fun c_44 => absurd c_44 (by decide)) (fun _ => ?_)
      refine lv_iload_n hx hb dX12_reserve_9 rfl (lv_at hl 1 rfl) ?_
      refine lv_aload_n hx hb dX12_reserve_10 rfl (lv_at hl 2 rfl) ?_
      refine va_get (D := (dC, dI)) (ci := 17) (v := .ref ss) (C := RX12) (T := TX12) (N := 16) hx hb hts (by decide +kernel) hown hK hP 0 rfl rfl 0 (by decide) (hts (.fieldLink RX12 11 "QueryHall" "sessions" "[LQueryHall$Session;") (by decide +kernel)) (fun _ h9 => h9) rfl dX12_reserve_11 ?_
      refine lv_iload_n hx hb dX12_reserve_14 rfl (lv_at hl 0 rfl) ?_
      refine va_aldq hx hb hK hP 1 0 rfl rfl (show ¬ ((2 : Int32) < 0 ∨ 4 ≤ (2 : Int32).toNatClampNeg) by decide) dX12_reserve_15 ?_
      refine W.eq (g2 := F0 m 16 ls [.ref a2, .int x_43]) (by rw [show (2 : Int32).toNatClampNeg = 2 from rfl, hs2]; rfl) ?_
      refine va_get (D := (dC, dI)) (ci := 15) (v := .int f13_2) (C := RX10) (T := TX10) (N := 16) hx hb hts (by decide +kernel) hown hK hP 4 rfl rfl 13 (by decide) (hts (.fieldLink RX12 250 "QueryHall$Session" "begin" "I") (by decide +kernel)) (fun _ h9 => h9) rfl dX12_reserve_16 ?_
      refine lv_if_le (tgt := 36) hx hb dX12_reserve_19 (by decide) (fun c_45 => ?_) (fun c_45 => ?_)
      · skip
        refine lv_iconst (v := 0) hx hb dX12_reserve_36 (by decide) ?_
        refine lv_iadd hx hb dX12_reserve_37 ?_
        refine lv_topi (fun x_46 ex_46 => ?_)
        refine lv_istore_n (lv' := [(1, .int x_46), (2, .int 2), (0, .ref h0)]) hx hb dX12_reserve_38 rfl hl (by decide) rfl (fun ls hl => ?_)
        refine lv_iinc (v := 3) (lv' := [(2, .int 3), (1, .int x_46), (0, .ref h0)]) hx hb dX12_reserve_39 hl (k := 1) rfl (by decide) (by decide) rfl (fun ls hl => ?_)
        refine lv_goto (tgt := 4) hx hb dX12_reserve_42 (by decide) ?_
        refine lv_iload_n hx hb dX12_reserve_4 rfl (lv_at hl 0 rfl) ?_
        refine lv_iconst (v := 4) hx hb dX12_reserve_5 (by decide) ?_
        refine lv_icmp_ge (tgt := 45) hx hb dX12_reserve_6 (by decide) (fun c_47 => absurd c_47 (by decide)) (fun _ => ?_)
        refine lv_iload_n hx hb dX12_reserve_9 rfl (lv_at hl 1 rfl) ?_
        refine lv_aload_n hx hb dX12_reserve_10 rfl (lv_at hl 2 rfl) ?_
        refine va_get (D := (dC, dI)) (ci := 17) (v := .ref ss) (C := RX12) (T := TX12) (N := 16) hx hb hts (by decide +kernel) hown hK hP 0 rfl rfl 0 (by decide) (hts (.fieldLink RX12 11 "QueryHall" "sessions" "[LQueryHall$Session;") (by decide +kernel)) (fun _ h9 => h9) rfl dX12_reserve_11 ?_
        refine lv_iload_n hx hb dX12_reserve_14 rfl (lv_at hl 0 rfl) ?_
        refine va_aldq hx hb hK hP 1 0 rfl rfl (show ¬ ((3 : Int32) < 0 ∨ 4 ≤ (3 : Int32).toNatClampNeg) by decide) dX12_reserve_15 ?_
        refine W.eq (g2 := F0 m 16 ls [.ref a3, .int x_46]) (by rw [show (3 : Int32).toNatClampNeg = 3 from rfl, hs3]; rfl) ?_
        refine va_get (D := (dC, dI)) (ci := 15) (v := .int f13_3) (C := RX10) (T := TX10) (N := 16) hx hb hts (by decide +kernel) hown hK hP 5 rfl rfl 13 (by decide) (hts (.fieldLink RX12 250 "QueryHall$Session" "begin" "I") (by decide +kernel)) (fun _ h9 => h9) rfl dX12_reserve_16 ?_
        refine lv_if_le (tgt := 36) hx hb dX12_reserve_19 (by decide) (fun c_48 => ?_) (fun c_48 => ?_)
        · skip
          refine lv_iconst (v := 0) hx hb dX12_reserve_36 (by decide) ?_
          refine lv_iadd hx hb dX12_reserve_37 ?_
          refine lv_topi (fun x_49 ex_49 => ?_)
          refine lv_istore_n (lv' := [(1, .int x_49), (2, .int 3), (0, .ref h0)]) hx hb dX12_reserve_38 rfl hl (by decide) rfl (fun ls hl => ?_)
          refine lv_iinc (v := 4) (lv' := [(2, .int 4), (1, .int x_49), (0, .ref h0)]) hx hb dX12_reserve_39 hl (k := 1) rfl (by decide) (by decide) rfl (fun ls hl => ?_)
          refine lv_goto (tgt := 4) hx hb dX12_reserve_42 (by decide) ?_
          refine lv_iload_n hx hb dX12_reserve_4 rfl (lv_at hl 0 rfl) ?_
          refine lv_iconst (v := 4) hx hb dX12_reserve_5 (by decide) ?_
          refine lv_icmp_ge (tgt := 45) hx hb dX12_reserve_6 (by decide) (fun _ => ?_) (fun c_50 => absurd (by decide) c_50)
          refine lv_iload_n hx hb dX12_reserve_45 rfl (lv_at hl 1 rfl) ?_
          have hP9 := hP.sub (ws' := [(h0, .inr (17, [.ref ss, .ref tb, .ref pa, .ref ck, .ref ev, .ref pn, .ref lk, .ref jo, .ref orw, .ref nrw, .int g10, .int g11, .int g12, .int g13, .int g14, .int g15])), (ss, .inl (cSs, 4, .inr (.inr (.inr (.inr sf))))), (a0, .inr (15, [.ref tx0, .ref cd0, .ref ca0, .ref pl0, .int f4_0, .int f5_0, .int f6_0, .int f7_0, .int f8_0, .int f9_0, .int f10_0, .int f11_0, .int f12_0, .int f13_0, .int f14_0, .int f15_0])), (a1, .inr (15, [.ref tx1, .ref cd1, .ref ca1, .ref pl1, .int f4_1, .int f5_1, .int f6_1, .int f7_1, .int f8_1, .int f9_1, .int f10_1, .int f11_1, .int f12_1, .int f13_1, .int f14_1, .int f15_1])), (a2, .inr (15, [.ref tx2, .ref cd2, .ref ca2, .ref pl2, .int f4_2, .int f5_2, .int f6_2, .int f7_2, .int f8_2, .int f9_2, .int f10_2, .int f11_2, .int f12_2, .int f13_2, .int f14_2, .int f15_2])), (a3, .inr (15, [.ref tx3, .ref cd3, .ref ca3, .ref pl3, .int f4_3, .int f5_3, .int f6_3, .int f7_3, .int f8_3, .int f9_3, .int f10_3, .int f11_3, .int f12_3, .int f13_3, .int f14_3, .int f15_3]))]) [0, 1, 2, 3, 4, 5] rfl
          have hD9 := hD.sub (ws' := [(h0, .inr (17, [.ref ss, .ref tb, .ref pa, .ref ck, .ref ev, .ref pn, .ref lk, .ref jo, .ref orw, .ref nrw, .int g10, .int g11, .int g12, .int g13, .int g14, .int g15])), (ss, .inl (cSs, 4, .inr (.inr (.inr (.inr sf))))), (a0, .inr (15, [.ref tx0, .ref cd0, .ref ca0, .ref pl0, .int f4_0, .int f5_0, .int f6_0, .int f7_0, .int f8_0, .int f9_0, .int f10_0, .int f11_0, .int f12_0, .int f13_0, .int f14_0, .int f15_0])), (a1, .inr (15, [.ref tx1, .ref cd1, .ref ca1, .ref pl1, .int f4_1, .int f5_1, .int f6_1, .int f7_1, .int f8_1, .int f9_1, .int f10_1, .int f11_1, .int f12_1, .int f13_1, .int f14_1, .int f15_1])), (a2, .inr (15, [.ref tx2, .ref cd2, .ref ca2, .ref pl2, .int f4_2, .int f5_2, .int f6_2, .int f7_2, .int f8_2, .int f9_2, .int f10_2, .int f11_2, .int f12_2, .int f13_2, .int f14_2, .int f15_2])), (a3, .inr (15, [.ref tx3, .ref cd3, .ref ca3, .ref pl3, .int f4_3, .int f5_3, .int f6_3, .int f7_3, .int f8_3, .int f9_3, .int f10_3, .int f11_3, .int f12_3, .int f13_3, .int f14_3, .int f15_3]))]) [0, 1, 2, 3, 4, 5] (by decide) rfl
          have hK9 := hK.sub (tys' := [(cSs, .object RX10)]) [0] rfl
          exact W.iret (v := x_49) hx hb hr (fun t ht hW => ⟨⟨x_49, (), rfl, (by subst_vars; try (first | rw [if_pos c_2] | rw [if_neg c_2]); try (first | rw [if_pos c_42] | rw [if_neg c_42]); try (first | rw [if_pos c_45] | rw [if_neg c_45]); try (first | rw [if_pos c_48] | rw [if_neg c_48]); try rfl), by rw [ht]; exact hP9, va_K.moved hW.alike hK9, hD9⟩, hS.F ht⟩) hS.2.2 dX12_reserve_46
        · skip
          refine lv_iconst (v := 1) hx hb dX12_reserve_22 (by decide) ?_
          refine lv_aload_n hx hb dX12_reserve_23 rfl (lv_at hl 2 rfl) ?_
          refine va_get (D := (dC, dI)) (ci := 17) (v := .ref ss) (C := RX12) (T := TX12) (N := 16) hx hb hts (by decide +kernel) hown hK hP 0 rfl rfl 0 (by decide) (hts (.fieldLink RX12 11 "QueryHall" "sessions" "[LQueryHall$Session;") (by decide +kernel)) (fun _ h9 => h9) rfl dX12_reserve_24 ?_
          refine lv_iload_n hx hb dX12_reserve_27 rfl (lv_at hl 0 rfl) ?_
          refine va_aldq hx hb hK hP 1 0 rfl rfl (show ¬ ((3 : Int32) < 0 ∨ 4 ≤ (3 : Int32).toNatClampNeg) by decide) dX12_reserve_28 ?_
          refine W.eq (g2 := F0 m 29 ls [.ref a3, .int 1, .int x_46]) (by rw [show (3 : Int32).toNatClampNeg = 3 from rfl, hs3]; rfl) ?_
          refine va_get (D := (dC, dI)) (ci := 15) (v := .int f15_3) (C := RX10) (T := TX10) (N := 16) hx hb hts (by decide +kernel) hown hK hP 5 rfl rfl 15 (by decide) (hts (.fieldLink RX12 475 "QueryHall$Session" "openRecords" "I") (by decide +kernel)) (fun _ h9 => h9) rfl dX12_reserve_29 ?_
          refine lv_iadd hx hb dX12_reserve_32 ?_
          refine lv_goto (tgt := 37) hx hb dX12_reserve_33 (by decide) ?_
          refine lv_iadd hx hb dX12_reserve_37 ?_
          refine lv_topi (fun x_51 ex_51 => ?_)
          refine lv_istore_n (lv' := [(1, .int x_51), (2, .int 3), (0, .ref h0)]) hx hb dX12_reserve_38 rfl hl (by decide) rfl (fun ls hl => ?_)
          refine lv_iinc (v := 4) (lv' := [(2, .int 4), (1, .int x_51), (0, .ref h0)]) hx hb dX12_reserve_39 hl (k := 1) rfl (by decide) (by decide) rfl (fun ls hl => ?_)
          refine lv_goto (tgt := 4) hx hb dX12_reserve_42 (by decide) ?_
          refine lv_iload_n hx hb dX12_reserve_4 rfl (lv_at hl 0 rfl) ?_
          refine lv_iconst (v := 4) hx hb dX12_reserve_5 (by decide) ?_
          refine lv_icmp_ge (tgt := 45) hx hb dX12_reserve_6 (by decide) (fun _ => ?_) (fun c_52 => absurd (by decide) c_52)
          refine lv_iload_n hx hb dX12_reserve_45 rfl (lv_at hl 1 rfl) ?_
          have hP9 := hP.sub (ws' := [(h0, .inr (17, [.ref ss, .ref tb, .ref pa, .ref ck, .ref ev, .ref pn, .ref lk, .ref jo, .ref orw, .ref nrw, .int g10, .int g11, .int g12, .int g13, .int g14, .int g15])), (ss, .inl (cSs, 4, .inr (.inr (.inr (.inr sf))))), (a0, .inr (15, [.ref tx0, .ref cd0, .ref ca0, .ref pl0, .int f4_0, .int f5_0, .int f6_0, .int f7_0, .int f8_0, .int f9_0, .int f10_0, .int f11_0, .int f12_0, .int f13_0, .int f14_0, .int f15_0])), (a1, .inr (15, [.ref tx1, .ref cd1, .ref ca1, .ref pl1, .int f4_1, .int f5_1, .int f6_1, .int f7_1, .int f8_1, .int f9_1, .int f10_1, .int f11_1, .int f12_1, .int f13_1, .int f14_1, .int f15_1])), (a2, .inr (15, [.ref tx2, .ref cd2, .ref ca2, .ref pl2, .int f4_2, .int f5_2, .int f6_2, .int f7_2, .int f8_2, .int f9_2, .int f10_2, .int f11_2, .int f12_2, .int f13_2, .int f14_2, .int f15_2])), (a3, .inr (15, [.ref tx3, .ref cd3, .ref ca3, .ref pl3, .int f4_3, .int f5_3, .int f6_3, .int f7_3, .int f8_3, .int f9_3, .int f10_3, .int f11_3, .int f12_3, .int f13_3, .int f14_3, .int f15_3]))]) [0, 1, 2, 3, 4, 5] rfl
          have hD9 := hD.sub (ws' := [(h0, .inr (17, [.ref ss, .ref tb, .ref pa, .ref ck, .ref ev, .ref pn, .ref lk, .ref jo, .ref orw, .ref nrw, .int g10, .int g11, .int g12, .int g13, .int g14, .int g15])), (ss, .inl (cSs, 4, .inr (.inr (.inr (.inr sf))))), (a0, .inr (15, [.ref tx0, .ref cd0, .ref ca0, .ref pl0, .int f4_0, .int f5_0, .int f6_0, .int f7_0, .int f8_0, .int f9_0, .int f10_0, .int f11_0, .int f12_0, .int f13_0, .int f14_0, .int f15_0])), (a1, .inr (15, [.ref tx1, .ref cd1, .ref ca1, .ref pl1, .int f4_1, .int f5_1, .int f6_1, .int f7_1, .int f8_1, .int f9_1, .int f10_1, .int f11_1, .int f12_1, .int f13_1, .int f14_1, .int f15_1])), (a2, .inr (15, [.ref tx2, .ref cd2, .ref ca2, .ref pl2, .int f4_2, .int f5_2, .int f6_2, .int f7_2, .int f8_2, .int f9_2, .int f10_2, .int f11_2, .int f12_2, .int f13_2, .int f14_2, .int f15_2])), (a3, .inr (15, [.ref tx3, .ref cd3, .ref ca3, .ref pl3, .int f4_3, .int f5_3, .int f6_3, .int f7_3, .int f8_3, .int f9_3, .int f10_3, .int f11_3, .int f12_3, .int f13_3, .int f14_3, .int f15_3]))]) [0, 1, 2, 3, 4, 5] (by decide) rfl
          have hK9 := hK.sub (tys' := [(cSs, .object RX10)]) [0] rfl
          exact W.iret (v := x_51) hx hb hr (fun t ht hW => ⟨⟨x_51, (), rfl, (by subst_vars; try (first | rw [if_pos c_2] | rw [if_neg c_2]); try (first | rw [if_pos c_42] | rw [if_neg c_42]); try (first | rw [if_pos c_45] | rw [if_neg c_45]); try (first | rw [if_pos c_48] | rw [if_neg c_48]); try rfl), by rw [ht]; exact hP9, va_K.moved hW.alike hK9, hD9⟩, hS.F ht⟩) hS.2.2 dX12_reserve_46
      · skip
        refine lv_iconst (v := 1) hx hb dX12_reserve_22 (by decide) ?_
        refine lv_aload_n hx hb dX12_reserve_23 rfl (lv_at hl 2 rfl) ?_
        refine va_get (D := (dC, dI)) (ci := 17) (v := .ref ss) (C := RX12) (T := TX12) (N := 16) hx hb hts (by decide +kernel) hown hK hP 0 rfl rfl 0 (by decide) (hts (.fieldLink RX12 11 "QueryHall" "sessions" "[LQueryHall$Session;") (by decide +kernel)) (fun _ h9 => h9) rfl dX12_reserve_24 ?_
        refine lv_iload_n hx hb dX12_reserve_27 rfl (lv_at hl 0 rfl) ?_
        refine va_aldq hx hb hK hP 1 0 rfl rfl (show ¬ ((2 : Int32) < 0 ∨ 4 ≤ (2 : Int32).toNatClampNeg) by decide) dX12_reserve_28 ?_
        refine W.eq (g2 := F0 m 29 ls [.ref a2, .int 1, .int x_43]) (by rw [show (2 : Int32).toNatClampNeg = 2 from rfl, hs2]; rfl) ?_
        refine va_get (D := (dC, dI)) (ci := 15) (v := .int f15_2) (C := RX10) (T := TX10) (N := 16) hx hb hts (by decide +kernel) hown hK hP 4 rfl rfl 15 (by decide) (hts (.fieldLink RX12 475 "QueryHall$Session" "openRecords" "I") (by decide +kernel)) (fun _ h9 => h9) rfl dX12_reserve_29 ?_
        refine lv_iadd hx hb dX12_reserve_32 ?_
        refine lv_goto (tgt := 37) hx hb dX12_reserve_33 (by decide) ?_
        refine lv_iadd hx hb dX12_reserve_37 ?_
        refine lv_topi (fun x_53 ex_53 => ?_)
        refine lv_istore_n (lv' := [(1, .int x_53), (2, .int 2), (0, .ref h0)]) hx hb dX12_reserve_38 rfl hl (by decide) rfl (fun ls hl => ?_)
        refine lv_iinc (v := 3) (lv' := [(2, .int 3), (1, .int x_53), (0, .ref h0)]) hx hb dX12_reserve_39 hl (k := 1) rfl (by decide) (by decide) rfl (fun ls hl => ?_)
        refine lv_goto (tgt := 4) hx hb dX12_reserve_42 (by decide) ?_
        refine lv_iload_n hx hb dX12_reserve_4 rfl (lv_at hl 0 rfl) ?_
        refine lv_iconst (v := 4) hx hb dX12_reserve_5 (by decide) ?_
        refine lv_icmp_ge (tgt := 45) hx hb dX12_reserve_6 (by decide) (fun c_54 => absurd c_54 (by decide)) (fun _ => ?_)
        refine lv_iload_n hx hb dX12_reserve_9 rfl (lv_at hl 1 rfl) ?_
        refine lv_aload_n hx hb dX12_reserve_10 rfl (lv_at hl 2 rfl) ?_
        refine va_get (D := (dC, dI)) (ci := 17) (v := .ref ss) (C := RX12) (T := TX12) (N := 16) hx hb hts (by decide +kernel) hown hK hP 0 rfl rfl 0 (by decide) (hts (.fieldLink RX12 11 "QueryHall" "sessions" "[LQueryHall$Session;") (by decide +kernel)) (fun _ h9 => h9) rfl dX12_reserve_11 ?_
        refine lv_iload_n hx hb dX12_reserve_14 rfl (lv_at hl 0 rfl) ?_
        refine va_aldq hx hb hK hP 1 0 rfl rfl (show ¬ ((3 : Int32) < 0 ∨ 4 ≤ (3 : Int32).toNatClampNeg) by decide) dX12_reserve_15 ?_
        refine W.eq (g2 := F0 m 16 ls [.ref a3, .int x_53]) (by rw [show (3 : Int32).toNatClampNeg = 3 from rfl, hs3]; rfl) ?_
        refine va_get (D := (dC, dI)) (ci := 15) (v := .int f13_3) (C := RX10) (T := TX10) (N := 16) hx hb hts (by decide +kernel) hown hK hP 5 rfl rfl 13 (by decide) (hts (.fieldLink RX12 250 "QueryHall$Session" "begin" "I") (by decide +kernel)) (fun _ h9 => h9) rfl dX12_reserve_16 ?_
        refine lv_if_le (tgt := 36) hx hb dX12_reserve_19 (by decide) (fun c_55 => ?_) (fun c_55 => ?_)
        · skip
          refine lv_iconst (v := 0) hx hb dX12_reserve_36 (by decide) ?_
          refine lv_iadd hx hb dX12_reserve_37 ?_
          refine lv_topi (fun x_56 ex_56 => ?_)
          refine lv_istore_n (lv' := [(1, .int x_56), (2, .int 3), (0, .ref h0)]) hx hb dX12_reserve_38 rfl hl (by decide) rfl (fun ls hl => ?_)
          refine lv_iinc (v := 4) (lv' := [(2, .int 4), (1, .int x_56), (0, .ref h0)]) hx hb dX12_reserve_39 hl (k := 1) rfl (by decide) (by decide) rfl (fun ls hl => ?_)
          refine lv_goto (tgt := 4) hx hb dX12_reserve_42 (by decide) ?_
          refine lv_iload_n hx hb dX12_reserve_4 rfl (lv_at hl 0 rfl) ?_
          refine lv_iconst (v := 4) hx hb dX12_reserve_5 (by decide) ?_
          refine lv_icmp_ge (tgt := 45) hx hb dX12_reserve_6 (by decide) (fun _ => ?_) (fun c_57 => absurd (by decide) c_57)
          refine lv_iload_n hx hb dX12_reserve_45 rfl (lv_at hl 1 rfl) ?_
          have hP9 := hP.sub (ws' := [(h0, .inr (17, [.ref ss, .ref tb, .ref pa, .ref ck, .ref ev, .ref pn, .ref lk, .ref jo, .ref orw, .ref nrw, .int g10, .int g11, .int g12, .int g13, .int g14, .int g15])), (ss, .inl (cSs, 4, .inr (.inr (.inr (.inr sf))))), (a0, .inr (15, [.ref tx0, .ref cd0, .ref ca0, .ref pl0, .int f4_0, .int f5_0, .int f6_0, .int f7_0, .int f8_0, .int f9_0, .int f10_0, .int f11_0, .int f12_0, .int f13_0, .int f14_0, .int f15_0])), (a1, .inr (15, [.ref tx1, .ref cd1, .ref ca1, .ref pl1, .int f4_1, .int f5_1, .int f6_1, .int f7_1, .int f8_1, .int f9_1, .int f10_1, .int f11_1, .int f12_1, .int f13_1, .int f14_1, .int f15_1])), (a2, .inr (15, [.ref tx2, .ref cd2, .ref ca2, .ref pl2, .int f4_2, .int f5_2, .int f6_2, .int f7_2, .int f8_2, .int f9_2, .int f10_2, .int f11_2, .int f12_2, .int f13_2, .int f14_2, .int f15_2])), (a3, .inr (15, [.ref tx3, .ref cd3, .ref ca3, .ref pl3, .int f4_3, .int f5_3, .int f6_3, .int f7_3, .int f8_3, .int f9_3, .int f10_3, .int f11_3, .int f12_3, .int f13_3, .int f14_3, .int f15_3]))]) [0, 1, 2, 3, 4, 5] rfl
          have hD9 := hD.sub (ws' := [(h0, .inr (17, [.ref ss, .ref tb, .ref pa, .ref ck, .ref ev, .ref pn, .ref lk, .ref jo, .ref orw, .ref nrw, .int g10, .int g11, .int g12, .int g13, .int g14, .int g15])), (ss, .inl (cSs, 4, .inr (.inr (.inr (.inr sf))))), (a0, .inr (15, [.ref tx0, .ref cd0, .ref ca0, .ref pl0, .int f4_0, .int f5_0, .int f6_0, .int f7_0, .int f8_0, .int f9_0, .int f10_0, .int f11_0, .int f12_0, .int f13_0, .int f14_0, .int f15_0])), (a1, .inr (15, [.ref tx1, .ref cd1, .ref ca1, .ref pl1, .int f4_1, .int f5_1, .int f6_1, .int f7_1, .int f8_1, .int f9_1, .int f10_1, .int f11_1, .int f12_1, .int f13_1, .int f14_1, .int f15_1])), (a2, .inr (15, [.ref tx2, .ref cd2, .ref ca2, .ref pl2, .int f4_2, .int f5_2, .int f6_2, .int f7_2, .int f8_2, .int f9_2, .int f10_2, .int f11_2, .int f12_2, .int f13_2, .int f14_2, .int f15_2])), (a3, .inr (15, [.ref tx3, .ref cd3, .ref ca3, .ref pl3, .int f4_3, .int f5_3, .int f6_3, .int f7_3, .int f8_3, .int f9_3, .int f10_3, .int f11_3, .int f12_3, .int f13_3, .int f14_3, .int f15_3]))]) [0, 1, 2, 3, 4, 5] (by decide) rfl
          have hK9 := hK.sub (tys' := [(cSs, .object RX10)]) [0] rfl
          exact W.iret (v := x_56) hx hb hr (fun t ht hW => ⟨⟨x_56, (), rfl, (by subst_vars; try (first | rw [if_pos c_2] | rw [if_neg c_2]); try (first | rw [if_pos c_42] | rw [if_neg c_42]); try (first | rw [if_pos c_45] | rw [if_neg c_45]); try (first | rw [if_pos c_55] | rw [if_neg c_55]); try rfl), by rw [ht]; exact hP9, va_K.moved hW.alike hK9, hD9⟩, hS.F ht⟩) hS.2.2 dX12_reserve_46
        · skip
          refine lv_iconst (v := 1) hx hb dX12_reserve_22 (by decide) ?_
          refine lv_aload_n hx hb dX12_reserve_23 rfl (lv_at hl 2 rfl) ?_
          refine va_get (D := (dC, dI)) (ci := 17) (v := .ref ss) (C := RX12) (T := TX12) (N := 16) hx hb hts (by decide +kernel) hown hK hP 0 rfl rfl 0 (by decide) (hts (.fieldLink RX12 11 "QueryHall" "sessions" "[LQueryHall$Session;") (by decide +kernel)) (fun _ h9 => h9) rfl dX12_reserve_24 ?_
          refine lv_iload_n hx hb dX12_reserve_27 rfl (lv_at hl 0 rfl) ?_
          refine va_aldq hx hb hK hP 1 0 rfl rfl (show ¬ ((3 : Int32) < 0 ∨ 4 ≤ (3 : Int32).toNatClampNeg) by decide) dX12_reserve_28 ?_
          refine W.eq (g2 := F0 m 29 ls [.ref a3, .int 1, .int x_53]) (by rw [show (3 : Int32).toNatClampNeg = 3 from rfl, hs3]; rfl) ?_
          refine va_get (D := (dC, dI)) (ci := 15) (v := .int f15_3) (C := RX10) (T := TX10) (N := 16) hx hb hts (by decide +kernel) hown hK hP 5 rfl rfl 15 (by decide) (hts (.fieldLink RX12 475 "QueryHall$Session" "openRecords" "I") (by decide +kernel)) (fun _ h9 => h9) rfl dX12_reserve_29 ?_
          refine lv_iadd hx hb dX12_reserve_32 ?_
          refine lv_goto (tgt := 37) hx hb dX12_reserve_33 (by decide) ?_
          refine lv_iadd hx hb dX12_reserve_37 ?_
          refine lv_topi (fun x_58 ex_58 => ?_)
          refine lv_istore_n (lv' := [(1, .int x_58), (2, .int 3), (0, .ref h0)]) hx hb dX12_reserve_38 rfl hl (by decide) rfl (fun ls hl => ?_)
          refine lv_iinc (v := 4) (lv' := [(2, .int 4), (1, .int x_58), (0, .ref h0)]) hx hb dX12_reserve_39 hl (k := 1) rfl (by decide) (by decide) rfl (fun ls hl => ?_)
          refine lv_goto (tgt := 4) hx hb dX12_reserve_42 (by decide) ?_
          refine lv_iload_n hx hb dX12_reserve_4 rfl (lv_at hl 0 rfl) ?_
          refine lv_iconst (v := 4) hx hb dX12_reserve_5 (by decide) ?_
          refine lv_icmp_ge (tgt := 45) hx hb dX12_reserve_6 (by decide) (fun _ => ?_) (fun c_59 => absurd (by decide) c_59)
          refine lv_iload_n hx hb dX12_reserve_45 rfl (lv_at hl 1 rfl) ?_
          have hP9 := hP.sub (ws' := [(h0, .inr (17, [.ref ss, .ref tb, .ref pa, .ref ck, .ref ev, .ref pn, .ref lk, .ref jo, .ref orw, .ref nrw, .int g10, .int g11, .int g12, .int g13, .int g14, .int g15])), (ss, .inl (cSs, 4, .inr (.inr (.inr (.inr sf))))), (a0, .inr (15, [.ref tx0, .ref cd0, .ref ca0, .ref pl0, .int f4_0, .int f5_0, .int f6_0, .int f7_0, .int f8_0, .int f9_0, .int f10_0, .int f11_0, .int f12_0, .int f13_0, .int f14_0, .int f15_0])), (a1, .inr (15, [.ref tx1, .ref cd1, .ref ca1, .ref pl1, .int f4_1, .int f5_1, .int f6_1, .int f7_1, .int f8_1, .int f9_1, .int f10_1, .int f11_1, .int f12_1, .int f13_1, .int f14_1, .int f15_1])), (a2, .inr (15, [.ref tx2, .ref cd2, .ref ca2, .ref pl2, .int f4_2, .int f5_2, .int f6_2, .int f7_2, .int f8_2, .int f9_2, .int f10_2, .int f11_2, .int f12_2, .int f13_2, .int f14_2, .int f15_2])), (a3, .inr (15, [.ref tx3, .ref cd3, .ref ca3, .ref pl3, .int f4_3, .int f5_3, .int f6_3, .int f7_3, .int f8_3, .int f9_3, .int f10_3, .int f11_3, .int f12_3, .int f13_3, .int f14_3, .int f15_3]))]) [0, 1, 2, 3, 4, 5] rfl
          have hD9 := hD.sub (ws' := [(h0, .inr (17, [.ref ss, .ref tb, .ref pa, .ref ck, .ref ev, .ref pn, .ref lk, .ref jo, .ref orw, .ref nrw, .int g10, .int g11, .int g12, .int g13, .int g14, .int g15])), (ss, .inl (cSs, 4, .inr (.inr (.inr (.inr sf))))), (a0, .inr (15, [.ref tx0, .ref cd0, .ref ca0, .ref pl0, .int f4_0, .int f5_0, .int f6_0, .int f7_0, .int f8_0, .int f9_0, .int f10_0, .int f11_0, .int f12_0, .int f13_0, .int f14_0, .int f15_0])), (a1, .inr (15, [.ref tx1, .ref cd1, .ref ca1, .ref pl1, .int f4_1, .int f5_1, .int f6_1, .int f7_1, .int f8_1, .int f9_1, .int f10_1, .int f11_1, .int f12_1, .int f13_1, .int f14_1, .int f15_1])), (a2, .inr (15, [.ref tx2, .ref cd2, .ref ca2, .ref pl2, .int f4_2, .int f5_2, .int f6_2, .int f7_2, .int f8_2, .int f9_2, .int f10_2, .int f11_2, .int f12_2, .int f13_2, .int f14_2, .int f15_2])), (a3, .inr (15, [.ref tx3, .ref cd3, .ref ca3, .ref pl3, .int f4_3, .int f5_3, .int f6_3, .int f7_3, .int f8_3, .int f9_3, .int f10_3, .int f11_3, .int f12_3, .int f13_3, .int f14_3, .int f15_3]))]) [0, 1, 2, 3, 4, 5] (by decide) rfl
          have hK9 := hK.sub (tys' := [(cSs, .object RX10)]) [0] rfl
          exact W.iret (v := x_58) hx hb hr (fun t ht hW => ⟨⟨x_58, (), rfl, (by subst_vars; try (first | rw [if_pos c_2] | rw [if_neg c_2]); try (first | rw [if_pos c_42] | rw [if_neg c_42]); try (first | rw [if_pos c_45] | rw [if_neg c_45]); try (first | rw [if_pos c_55] | rw [if_neg c_55]); try rfl), by rw [ht]; exact hP9, va_K.moved hW.alike hK9, hD9⟩, hS.F ht⟩) hS.2.2 dX12_reserve_46
    · skip
      refine lv_iconst (v := 1) hx hb dX12_reserve_22 (by decide) ?_
      refine lv_aload_n hx hb dX12_reserve_23 rfl (lv_at hl 2 rfl) ?_
      refine va_get (D := (dC, dI)) (ci := 17) (v := .ref ss) (C := RX12) (T := TX12) (N := 16) hx hb hts (by decide +kernel) hown hK hP 0 rfl rfl 0 (by decide) (hts (.fieldLink RX12 11 "QueryHall" "sessions" "[LQueryHall$Session;") (by decide +kernel)) (fun _ h9 => h9) rfl dX12_reserve_24 ?_
      refine lv_iload_n hx hb dX12_reserve_27 rfl (lv_at hl 0 rfl) ?_
      refine va_aldq hx hb hK hP 1 0 rfl rfl (show ¬ ((1 : Int32) < 0 ∨ 4 ≤ (1 : Int32).toNatClampNeg) by decide) dX12_reserve_28 ?_
      refine W.eq (g2 := F0 m 29 ls [.ref a1, .int 1, .int x_40]) (by rw [show (1 : Int32).toNatClampNeg = 1 from rfl, hs1]; rfl) ?_
      refine va_get (D := (dC, dI)) (ci := 15) (v := .int f15_1) (C := RX10) (T := TX10) (N := 16) hx hb hts (by decide +kernel) hown hK hP 3 rfl rfl 15 (by decide) (hts (.fieldLink RX12 475 "QueryHall$Session" "openRecords" "I") (by decide +kernel)) (fun _ h9 => h9) rfl dX12_reserve_29 ?_
      refine lv_iadd hx hb dX12_reserve_32 ?_
      refine lv_goto (tgt := 37) hx hb dX12_reserve_33 (by decide) ?_
      refine lv_iadd hx hb dX12_reserve_37 ?_
      refine lv_topi (fun x_60 ex_60 => ?_)
      refine lv_istore_n (lv' := [(1, .int x_60), (2, .int 1), (0, .ref h0)]) hx hb dX12_reserve_38 rfl hl (by decide) rfl (fun ls hl => ?_)
      refine lv_iinc (v := 2) (lv' := [(2, .int 2), (1, .int x_60), (0, .ref h0)]) hx hb dX12_reserve_39 hl (k := 1) rfl (by decide) (by decide) rfl (fun ls hl => ?_)
      refine lv_goto (tgt := 4) hx hb dX12_reserve_42 (by decide) ?_
      refine lv_iload_n hx hb dX12_reserve_4 rfl (lv_at hl 0 rfl) ?_
      refine lv_iconst (v := 4) hx hb dX12_reserve_5 (by decide) ?_
      refine lv_icmp_ge (tgt := 45) hx hb dX12_reserve_6 (by decide) (fun c_61 => absurd c_61 (by decide)) (fun _ => ?_)
      refine lv_iload_n hx hb dX12_reserve_9 rfl (lv_at hl 1 rfl) ?_
      refine lv_aload_n hx hb dX12_reserve_10 rfl (lv_at hl 2 rfl) ?_
      refine va_get (D := (dC, dI)) (ci := 17) (v := .ref ss) (C := RX12) (T := TX12) (N := 16) hx hb hts (by decide +kernel) hown hK hP 0 rfl rfl 0 (by decide) (hts (.fieldLink RX12 11 "QueryHall" "sessions" "[LQueryHall$Session;") (by decide +kernel)) (fun _ h9 => h9) rfl dX12_reserve_11 ?_
      refine lv_iload_n hx hb dX12_reserve_14 rfl (lv_at hl 0 rfl) ?_
      refine va_aldq hx hb hK hP 1 0 rfl rfl (show ¬ ((2 : Int32) < 0 ∨ 4 ≤ (2 : Int32).toNatClampNeg) by decide) dX12_reserve_15 ?_
      refine W.eq (g2 := F0 m 16 ls [.ref a2, .int x_60]) (by rw [show (2 : Int32).toNatClampNeg = 2 from rfl, hs2]; rfl) ?_
      refine va_get (D := (dC, dI)) (ci := 15) (v := .int f13_2) (C := RX10) (T := TX10) (N := 16) hx hb hts (by decide +kernel) hown hK hP 4 rfl rfl 13 (by decide) (hts (.fieldLink RX12 250 "QueryHall$Session" "begin" "I") (by decide +kernel)) (fun _ h9 => h9) rfl dX12_reserve_16 ?_
      refine lv_if_le (tgt := 36) hx hb dX12_reserve_19 (by decide) (fun c_62 => ?_) (fun c_62 => ?_)
      · skip
        refine lv_iconst (v := 0) hx hb dX12_reserve_36 (by decide) ?_
        refine lv_iadd hx hb dX12_reserve_37 ?_
        refine lv_topi (fun x_63 ex_63 => ?_)
        refine lv_istore_n (lv' := [(1, .int x_63), (2, .int 2), (0, .ref h0)]) hx hb dX12_reserve_38 rfl hl (by decide) rfl (fun ls hl => ?_)
        refine lv_iinc (v := 3) (lv' := [(2, .int 3), (1, .int x_63), (0, .ref h0)]) hx hb dX12_reserve_39 hl (k := 1) rfl (by decide) (by decide) rfl (fun ls hl => ?_)
        refine lv_goto (tgt := 4) hx hb dX12_reserve_42 (by decide) ?_
        refine lv_iload_n hx hb dX12_reserve_4 rfl (lv_at hl 0 rfl) ?_
        refine lv_iconst (v := 4) hx hb dX12_reserve_5 (by decide) ?_
        refine lv_icmp_ge (tgt := 45) hx hb dX12_reserve_6 (by decide) (fun c_64 => absurd c_64 (by decide)) (fun _ => ?_)
        refine lv_iload_n hx hb dX12_reserve_9 rfl (lv_at hl 1 rfl) ?_
        refine lv_aload_n hx hb dX12_reserve_10 rfl (lv_at hl 2 rfl) ?_
        refine va_get (D := (dC, dI)) (ci := 17) (v := .ref ss) (C := RX12) (T := TX12) (N := 16) hx hb hts (by decide +kernel) hown hK hP 0 rfl rfl 0 (by decide) (hts (.fieldLink RX12 11 "QueryHall" "sessions" "[LQueryHall$Session;") (by decide +kernel)) (fun _ h9 => h9) rfl dX12_reserve_11 ?_
        refine lv_iload_n hx hb dX12_reserve_14 rfl (lv_at hl 0 rfl) ?_
        refine va_aldq hx hb hK hP 1 0 rfl rfl (show ¬ ((3 : Int32) < 0 ∨ 4 ≤ (3 : Int32).toNatClampNeg) by decide) dX12_reserve_15 ?_
        refine W.eq (g2 := F0 m 16 ls [.ref a3, .int x_63]) (by rw [show (3 : Int32).toNatClampNeg = 3 from rfl, hs3]; rfl) ?_
        refine va_get (D := (dC, dI)) (ci := 15) (v := .int f13_3) (C := RX10) (T := TX10) (N := 16) hx hb hts (by decide +kernel) hown hK hP 5 rfl rfl 13 (by decide) (hts (.fieldLink RX12 250 "QueryHall$Session" "begin" "I") (by decide +kernel)) (fun _ h9 => h9) rfl dX12_reserve_16 ?_
        refine lv_if_le (tgt := 36) hx hb dX12_reserve_19 (by decide) (fun c_65 => ?_) (fun c_65 => ?_)
        · skip
          refine lv_iconst (v := 0) hx hb dX12_reserve_36 (by decide) ?_
          refine lv_iadd hx hb dX12_reserve_37 ?_
          refine lv_topi (fun x_66 ex_66 => ?_)
          refine lv_istore_n (lv' := [(1, .int x_66), (2, .int 3), (0, .ref h0)]) hx hb dX12_reserve_38 rfl hl (by decide) rfl (fun ls hl => ?_)
          refine lv_iinc (v := 4) (lv' := [(2, .int 4), (1, .int x_66), (0, .ref h0)]) hx hb dX12_reserve_39 hl (k := 1) rfl (by decide) (by decide) rfl (fun ls hl => ?_)
          refine lv_goto (tgt := 4) hx hb dX12_reserve_42 (by decide) ?_
          refine lv_iload_n hx hb dX12_reserve_4 rfl (lv_at hl 0 rfl) ?_
          refine lv_iconst (v := 4) hx hb dX12_reserve_5 (by decide) ?_
          refine lv_icmp_ge (tgt := 45) hx hb dX12_reserve_6 (by decide) (fun _ => ?_) (fun c_67 => absurd (by decide) c_67)
          refine lv_iload_n hx hb dX12_reserve_45 rfl (lv_at hl 1 rfl) ?_
          have hP9 := hP.sub (ws' := [(h0, .inr (17, [.ref ss, .ref tb, .ref pa, .ref ck, .ref ev, .ref pn, .ref lk, .ref jo, .ref orw, .ref nrw, .int g10, .int g11, .int g12, .int g13, .int g14, .int g15])), (ss, .inl (cSs, 4, .inr (.inr (.inr (.inr sf))))), (a0, .inr (15, [.ref tx0, .ref cd0, .ref ca0, .ref pl0, .int f4_0, .int f5_0, .int f6_0, .int f7_0, .int f8_0, .int f9_0, .int f10_0, .int f11_0, .int f12_0, .int f13_0, .int f14_0, .int f15_0])), (a1, .inr (15, [.ref tx1, .ref cd1, .ref ca1, .ref pl1, .int f4_1, .int f5_1, .int f6_1, .int f7_1, .int f8_1, .int f9_1, .int f10_1, .int f11_1, .int f12_1, .int f13_1, .int f14_1, .int f15_1])), (a2, .inr (15, [.ref tx2, .ref cd2, .ref ca2, .ref pl2, .int f4_2, .int f5_2, .int f6_2, .int f7_2, .int f8_2, .int f9_2, .int f10_2, .int f11_2, .int f12_2, .int f13_2, .int f14_2, .int f15_2])), (a3, .inr (15, [.ref tx3, .ref cd3, .ref ca3, .ref pl3, .int f4_3, .int f5_3, .int f6_3, .int f7_3, .int f8_3, .int f9_3, .int f10_3, .int f11_3, .int f12_3, .int f13_3, .int f14_3, .int f15_3]))]) [0, 1, 2, 3, 4, 5] rfl
          have hD9 := hD.sub (ws' := [(h0, .inr (17, [.ref ss, .ref tb, .ref pa, .ref ck, .ref ev, .ref pn, .ref lk, .ref jo, .ref orw, .ref nrw, .int g10, .int g11, .int g12, .int g13, .int g14, .int g15])), (ss, .inl (cSs, 4, .inr (.inr (.inr (.inr sf))))), (a0, .inr (15, [.ref tx0, .ref cd0, .ref ca0, .ref pl0, .int f4_0, .int f5_0, .int f6_0, .int f7_0, .int f8_0, .int f9_0, .int f10_0, .int f11_0, .int f12_0, .int f13_0, .int f14_0, .int f15_0])), (a1, .inr (15, [.ref tx1, .ref cd1, .ref ca1, .ref pl1, .int f4_1, .int f5_1, .int f6_1, .int f7_1, .int f8_1, .int f9_1, .int f10_1, .int f11_1, .int f12_1, .int f13_1, .int f14_1, .int f15_1])), (a2, .inr (15, [.ref tx2, .ref cd2, .ref ca2, .ref pl2, .int f4_2, .int f5_2, .int f6_2, .int f7_2, .int f8_2, .int f9_2, .int f10_2, .int f11_2, .int f12_2, .int f13_2, .int f14_2, .int f15_2])), (a3, .inr (15, [.ref tx3, .ref cd3, .ref ca3, .ref pl3, .int f4_3, .int f5_3, .int f6_3, .int f7_3, .int f8_3, .int f9_3, .int f10_3, .int f11_3, .int f12_3, .int f13_3, .int f14_3, .int f15_3]))]) [0, 1, 2, 3, 4, 5] (by decide) rfl
          have hK9 := hK.sub (tys' := [(cSs, .object RX10)]) [0] rfl
          exact W.iret (v := x_66) hx hb hr (fun t ht hW => ⟨⟨x_66, (), rfl, (by subst_vars; try (first | rw [if_pos c_2] | rw [if_neg c_2]); try (first | rw [if_pos c_42] | rw [if_neg c_42]); try (first | rw [if_pos c_62] | rw [if_neg c_62]); try (first | rw [if_pos c_65] | rw [if_neg c_65]); try rfl), by rw [ht]; exact hP9, va_K.moved hW.alike hK9, hD9⟩, hS.F ht⟩) hS.2.2 dX12_reserve_46
        · skip
          refine lv_iconst (v := 1) hx hb dX12_reserve_22 (by decide) ?_
          refine lv_aload_n hx hb dX12_reserve_23 rfl (lv_at hl 2 rfl) ?_
          refine va_get (D := (dC, dI)) (ci := 17) (v := .ref ss) (C := RX12) (T := TX12) (N := 16) hx hb hts (by decide +kernel) hown hK hP 0 rfl rfl 0 (by decide) (hts (.fieldLink RX12 11 "QueryHall" "sessions" "[LQueryHall$Session;") (by decide +kernel)) (fun _ h9 => h9) rfl dX12_reserve_24 ?_
          refine lv_iload_n hx hb dX12_reserve_27 rfl (lv_at hl 0 rfl) ?_
          refine va_aldq hx hb hK hP 1 0 rfl rfl (show ¬ ((3 : Int32) < 0 ∨ 4 ≤ (3 : Int32).toNatClampNeg) by decide) dX12_reserve_28 ?_
          refine W.eq (g2 := F0 m 29 ls [.ref a3, .int 1, .int x_63]) (by rw [show (3 : Int32).toNatClampNeg = 3 from rfl, hs3]; rfl) ?_
          refine va_get (D := (dC, dI)) (ci := 15) (v := .int f15_3) (C := RX10) (T := TX10) (N := 16) hx hb hts (by decide +kernel) hown hK hP 5 rfl rfl 15 (by decide) (hts (.fieldLink RX12 475 "QueryHall$Session" "openRecords" "I") (by decide +kernel)) (fun _ h9 => h9) rfl dX12_reserve_29 ?_
          refine lv_iadd hx hb dX12_reserve_32 ?_
          refine lv_goto (tgt := 37) hx hb dX12_reserve_33 (by decide) ?_
          refine lv_iadd hx hb dX12_reserve_37 ?_
          refine lv_topi (fun x_68 ex_68 => ?_)
          refine lv_istore_n (lv' := [(1, .int x_68), (2, .int 3), (0, .ref h0)]) hx hb dX12_reserve_38 rfl hl (by decide) rfl (fun ls hl => ?_)
          refine lv_iinc (v := 4) (lv' := [(2, .int 4), (1, .int x_68), (0, .ref h0)]) hx hb dX12_reserve_39 hl (k := 1) rfl (by decide) (by decide) rfl (fun ls hl => ?_)
          refine lv_goto (tgt := 4) hx hb dX12_reserve_42 (by decide) ?_
          refine lv_iload_n hx hb dX12_reserve_4 rfl (lv_at hl 0 rfl) ?_
          refine lv_iconst (v := 4) hx hb dX12_reserve_5 (by decide) ?_
          refine lv_icmp_ge (tgt := 45) hx hb dX12_reserve_6 (by decide) (fun _ => ?_) (fun c_69 => absurd (by decide) c_69)
          refine lv_iload_n hx hb dX12_reserve_45 rfl (lv_at hl 1 rfl) ?_
          have hP9 := hP.sub (ws' := [(h0, .inr (17, [.ref ss, .ref tb, .ref pa, .ref ck, .ref ev, .ref pn, .ref lk, .ref jo, .ref orw, .ref nrw, .int g10, .int g11, .int g12, .int g13, .int g14, .int g15])), (ss, .inl (cSs, 4, .inr (.inr (.inr (.inr sf))))), (a0, .inr (15, [.ref tx0, .ref cd0, .ref ca0, .ref pl0, .int f4_0, .int f5_0, .int f6_0, .int f7_0, .int f8_0, .int f9_0, .int f10_0, .int f11_0, .int f12_0, .int f13_0, .int f14_0, .int f15_0])), (a1, .inr (15, [.ref tx1, .ref cd1, .ref ca1, .ref pl1, .int f4_1, .int f5_1, .int f6_1, .int f7_1, .int f8_1, .int f9_1, .int f10_1, .int f11_1, .int f12_1, .int f13_1, .int f14_1, .int f15_1])), (a2, .inr (15, [.ref tx2, .ref cd2, .ref ca2, .ref pl2, .int f4_2, .int f5_2, .int f6_2, .int f7_2, .int f8_2, .int f9_2, .int f10_2, .int f11_2, .int f12_2, .int f13_2, .int f14_2, .int f15_2])), (a3, .inr (15, [.ref tx3, .ref cd3, .ref ca3, .ref pl3, .int f4_3, .int f5_3, .int f6_3, .int f7_3, .int f8_3, .int f9_3, .int f10_3, .int f11_3, .int f12_3, .int f13_3, .int f14_3, .int f15_3]))]) [0, 1, 2, 3, 4, 5] rfl
          have hD9 := hD.sub (ws' := [(h0, .inr (17, [.ref ss, .ref tb, .ref pa, .ref ck, .ref ev, .ref pn, .ref lk, .ref jo, .ref orw, .ref nrw, .int g10, .int g11, .int g12, .int g13, .int g14, .int g15])), (ss, .inl (cSs, 4, .inr (.inr (.inr (.inr sf))))), (a0, .inr (15, [.ref tx0, .ref cd0, .ref ca0, .ref pl0, .int f4_0, .int f5_0, .int f6_0, .int f7_0, .int f8_0, .int f9_0, .int f10_0, .int f11_0, .int f12_0, .int f13_0, .int f14_0, .int f15_0])), (a1, .inr (15, [.ref tx1, .ref cd1, .ref ca1, .ref pl1, .int f4_1, .int f5_1, .int f6_1, .int f7_1, .int f8_1, .int f9_1, .int f10_1, .int f11_1, .int f12_1, .int f13_1, .int f14_1, .int f15_1])), (a2, .inr (15, [.ref tx2, .ref cd2, .ref ca2, .ref pl2, .int f4_2, .int f5_2, .int f6_2, .int f7_2, .int f8_2, .int f9_2, .int f10_2, .int f11_2, .int f12_2, .int f13_2, .int f14_2, .int f15_2])), (a3, .inr (15, [.ref tx3, .ref cd3, .ref ca3, .ref pl3, .int f4_3, .int f5_3, .int f6_3, .int f7_3, .int f8_3, .int f9_3, .int f10_3, .int f11_3, .int f12_3, .int f13_3, .int f14_3, .int f15_3]))]) [0, 1, 2, 3, 4, 5] (by decide) rfl
          have hK9 := hK.sub (tys' := [(cSs, .object RX10)]) [0] rfl
          exact W.iret (v := x_68) hx hb hr (fun t ht hW => ⟨⟨x_68, (), rfl, (by subst_vars; try (first | rw [if_pos c_2] | rw [if_neg c_2]); try (first | rw [if_pos c_42] | rw [if_neg c_42]); try (first | rw [if_pos c_62] | rw [if_neg c_62]); try (first | rw [if_pos c_65] | rw [if_neg c_65]); try rfl), by rw [ht]; exact hP9, va_K.moved hW.alike hK9, hD9⟩, hS.F ht⟩) hS.2.2 dX12_reserve_46
      · skip
        refine lv_iconst (v := 1) hx hb dX12_reserve_22 (by decide) ?_
        refine lv_aload_n hx hb dX12_reserve_23 rfl (lv_at hl 2 rfl) ?_
        refine va_get (D := (dC, dI)) (ci := 17) (v := .ref ss) (C := RX12) (T := TX12) (N := 16) hx hb hts (by decide +kernel) hown hK hP 0 rfl rfl 0 (by decide) (hts (.fieldLink RX12 11 "QueryHall" "sessions" "[LQueryHall$Session;") (by decide +kernel)) (fun _ h9 => h9) rfl dX12_reserve_24 ?_
        refine lv_iload_n hx hb dX12_reserve_27 rfl (lv_at hl 0 rfl) ?_
        refine va_aldq hx hb hK hP 1 0 rfl rfl (show ¬ ((2 : Int32) < 0 ∨ 4 ≤ (2 : Int32).toNatClampNeg) by decide) dX12_reserve_28 ?_
        refine W.eq (g2 := F0 m 29 ls [.ref a2, .int 1, .int x_60]) (by rw [show (2 : Int32).toNatClampNeg = 2 from rfl, hs2]; rfl) ?_
        refine va_get (D := (dC, dI)) (ci := 15) (v := .int f15_2) (C := RX10) (T := TX10) (N := 16) hx hb hts (by decide +kernel) hown hK hP 4 rfl rfl 15 (by decide) (hts (.fieldLink RX12 475 "QueryHall$Session" "openRecords" "I") (by decide +kernel)) (fun _ h9 => h9) rfl dX12_reserve_29 ?_
        refine lv_iadd hx hb dX12_reserve_32 ?_
        refine lv_goto (tgt := 37) hx hb dX12_reserve_33 (by decide) ?_
        refine lv_iadd hx hb dX12_reserve_37 ?_
        refine lv_topi (fun x_70 ex_70 => ?_)
        refine lv_istore_n (lv' := [(1, .int x_70), (2, .int 2), (0, .ref h0)]) hx hb dX12_reserve_38 rfl hl (by decide) rfl (fun ls hl => ?_)
        refine lv_iinc (v := 3) (lv' := [(2, .int 3), (1, .int x_70), (0, .ref h0)]) hx hb dX12_reserve_39 hl (k := 1) rfl (by decide) (by decide) rfl (fun ls hl => ?_)
        refine lv_goto (tgt := 4) hx hb dX12_reserve_42 (by decide) ?_
        refine lv_iload_n hx hb dX12_reserve_4 rfl (lv_at hl 0 rfl) ?_
        refine lv_iconst (v := 4) hx hb dX12_reserve_5 (by decide) ?_
        refine lv_icmp_ge (tgt := 45) hx hb dX12_reserve_6 (by decide) (fun c_71 => absurd c_71 (by decide)) (fun _ => ?_)
        refine lv_iload_n hx hb dX12_reserve_9 rfl (lv_at hl 1 rfl) ?_
        refine lv_aload_n hx hb dX12_reserve_10 rfl (lv_at hl 2 rfl) ?_
        refine va_get (D := (dC, dI)) (ci := 17) (v := .ref ss) (C := RX12) (T := TX12) (N := 16) hx hb hts (by decide +kernel) hown hK hP 0 rfl rfl 0 (by decide) (hts (.fieldLink RX12 11 "QueryHall" "sessions" "[LQueryHall$Session;") (by decide +kernel)) (fun _ h9 => h9) rfl dX12_reserve_11 ?_
        refine lv_iload_n hx hb dX12_reserve_14 rfl (lv_at hl 0 rfl) ?_
        refine va_aldq hx hb hK hP 1 0 rfl rfl (show ¬ ((3 : Int32) < 0 ∨ 4 ≤ (3 : Int32).toNatClampNeg) by decide) dX12_reserve_15 ?_
        refine W.eq (g2 := F0 m 16 ls [.ref a3, .int x_70]) (by rw [show (3 : Int32).toNatClampNeg = 3 from rfl, hs3]; rfl) ?_
        refine va_get (D := (dC, dI)) (ci := 15) (v := .int f13_3) (C := RX10) (T := TX10) (N := 16) hx hb hts (by decide +kernel) hown hK hP 5 rfl rfl 13 (by decide) (hts (.fieldLink RX12 250 "QueryHall$Session" "begin" "I") (by decide +kernel)) (fun _ h9 => h9) rfl dX12_reserve_16 ?_
        refine lv_if_le (tgt := 36) hx hb dX12_reserve_19 (by decide) (fun c_72 => ?_) (fun c_72 => ?_)
        · skip
          refine lv_iconst (v := 0) hx hb dX12_reserve_36 (by decide) ?_
          refine lv_iadd hx hb dX12_reserve_37 ?_
          refine lv_topi (fun x_73 ex_73 => ?_)
          refine lv_istore_n (lv' := [(1, .int x_73), (2, .int 3), (0, .ref h0)]) hx hb dX12_reserve_38 rfl hl (by decide) rfl (fun ls hl => ?_)
          refine lv_iinc (v := 4) (lv' := [(2, .int 4), (1, .int x_73), (0, .ref h0)]) hx hb dX12_reserve_39 hl (k := 1) rfl (by decide) (by decide) rfl (fun ls hl => ?_)
          refine lv_goto (tgt := 4) hx hb dX12_reserve_42 (by decide) ?_
          refine lv_iload_n hx hb dX12_reserve_4 rfl (lv_at hl 0 rfl) ?_
          refine lv_iconst (v := 4) hx hb dX12_reserve_5 (by decide) ?_
          refine lv_icmp_ge (tgt := 45) hx hb dX12_reserve_6 (by decide) (fun _ => ?_) (fun c_74 => absurd (by decide) c_74)
          refine lv_iload_n hx hb dX12_reserve_45 rfl (lv_at hl 1 rfl) ?_
          have hP9 := hP.sub (ws' := [(h0, .inr (17, [.ref ss, .ref tb, .ref pa, .ref ck, .ref ev, .ref pn, .ref lk, .ref jo, .ref orw, .ref nrw, .int g10, .int g11, .int g12, .int g13, .int g14, .int g15])), (ss, .inl (cSs, 4, .inr (.inr (.inr (.inr sf))))), (a0, .inr (15, [.ref tx0, .ref cd0, .ref ca0, .ref pl0, .int f4_0, .int f5_0, .int f6_0, .int f7_0, .int f8_0, .int f9_0, .int f10_0, .int f11_0, .int f12_0, .int f13_0, .int f14_0, .int f15_0])), (a1, .inr (15, [.ref tx1, .ref cd1, .ref ca1, .ref pl1, .int f4_1, .int f5_1, .int f6_1, .int f7_1, .int f8_1, .int f9_1, .int f10_1, .int f11_1, .int f12_1, .int f13_1, .int f14_1, .int f15_1])), (a2, .inr (15, [.ref tx2, .ref cd2, .ref ca2, .ref pl2, .int f4_2, .int f5_2, .int f6_2, .int f7_2, .int f8_2, .int f9_2, .int f10_2, .int f11_2, .int f12_2, .int f13_2, .int f14_2, .int f15_2])), (a3, .inr (15, [.ref tx3, .ref cd3, .ref ca3, .ref pl3, .int f4_3, .int f5_3, .int f6_3, .int f7_3, .int f8_3, .int f9_3, .int f10_3, .int f11_3, .int f12_3, .int f13_3, .int f14_3, .int f15_3]))]) [0, 1, 2, 3, 4, 5] rfl
          have hD9 := hD.sub (ws' := [(h0, .inr (17, [.ref ss, .ref tb, .ref pa, .ref ck, .ref ev, .ref pn, .ref lk, .ref jo, .ref orw, .ref nrw, .int g10, .int g11, .int g12, .int g13, .int g14, .int g15])), (ss, .inl (cSs, 4, .inr (.inr (.inr (.inr sf))))), (a0, .inr (15, [.ref tx0, .ref cd0, .ref ca0, .ref pl0, .int f4_0, .int f5_0, .int f6_0, .int f7_0, .int f8_0, .int f9_0, .int f10_0, .int f11_0, .int f12_0, .int f13_0, .int f14_0, .int f15_0])), (a1, .inr (15, [.ref tx1, .ref cd1, .ref ca1, .ref pl1, .int f4_1, .int f5_1, .int f6_1, .int f7_1, .int f8_1, .int f9_1, .int f10_1, .int f11_1, .int f12_1, .int f13_1, .int f14_1, .int f15_1])), (a2, .inr (15, [.ref tx2, .ref cd2, .ref ca2, .ref pl2, .int f4_2, .int f5_2, .int f6_2, .int f7_2, .int f8_2, .int f9_2, .int f10_2, .int f11_2, .int f12_2, .int f13_2, .int f14_2, .int f15_2])), (a3, .inr (15, [.ref tx3, .ref cd3, .ref ca3, .ref pl3, .int f4_3, .int f5_3, .int f6_3, .int f7_3, .int f8_3, .int f9_3, .int f10_3, .int f11_3, .int f12_3, .int f13_3, .int f14_3, .int f15_3]))]) [0, 1, 2, 3, 4, 5] (by decide) rfl
          have hK9 := hK.sub (tys' := [(cSs, .object RX10)]) [0] rfl
          exact W.iret (v := x_73) hx hb hr (fun t ht hW => ⟨⟨x_73, (), rfl, (by subst_vars; try (first | rw [if_pos c_2] | rw [if_neg c_2]); try (first | rw [if_pos c_42] | rw [if_neg c_42]); try (first | rw [if_pos c_62] | rw [if_neg c_62]); try (first | rw [if_pos c_72] | rw [if_neg c_72]); try rfl), by rw [ht]; exact hP9, va_K.moved hW.alike hK9, hD9⟩, hS.F ht⟩) hS.2.2 dX12_reserve_46
        · skip
          refine lv_iconst (v := 1) hx hb dX12_reserve_22 (by decide) ?_
          refine lv_aload_n hx hb dX12_reserve_23 rfl (lv_at hl 2 rfl) ?_
          refine va_get (D := (dC, dI)) (ci := 17) (v := .ref ss) (C := RX12) (T := TX12) (N := 16) hx hb hts (by decide +kernel) hown hK hP 0 rfl rfl 0 (by decide) (hts (.fieldLink RX12 11 "QueryHall" "sessions" "[LQueryHall$Session;") (by decide +kernel)) (fun _ h9 => h9) rfl dX12_reserve_24 ?_
          refine lv_iload_n hx hb dX12_reserve_27 rfl (lv_at hl 0 rfl) ?_
          refine va_aldq hx hb hK hP 1 0 rfl rfl (show ¬ ((3 : Int32) < 0 ∨ 4 ≤ (3 : Int32).toNatClampNeg) by decide) dX12_reserve_28 ?_
          refine W.eq (g2 := F0 m 29 ls [.ref a3, .int 1, .int x_70]) (by rw [show (3 : Int32).toNatClampNeg = 3 from rfl, hs3]; rfl) ?_
          refine va_get (D := (dC, dI)) (ci := 15) (v := .int f15_3) (C := RX10) (T := TX10) (N := 16) hx hb hts (by decide +kernel) hown hK hP 5 rfl rfl 15 (by decide) (hts (.fieldLink RX12 475 "QueryHall$Session" "openRecords" "I") (by decide +kernel)) (fun _ h9 => h9) rfl dX12_reserve_29 ?_
          refine lv_iadd hx hb dX12_reserve_32 ?_
          refine lv_goto (tgt := 37) hx hb dX12_reserve_33 (by decide) ?_
          refine lv_iadd hx hb dX12_reserve_37 ?_
          refine lv_topi (fun x_75 ex_75 => ?_)
          refine lv_istore_n (lv' := [(1, .int x_75), (2, .int 3), (0, .ref h0)]) hx hb dX12_reserve_38 rfl hl (by decide) rfl (fun ls hl => ?_)
          refine lv_iinc (v := 4) (lv' := [(2, .int 4), (1, .int x_75), (0, .ref h0)]) hx hb dX12_reserve_39 hl (k := 1) rfl (by decide) (by decide) rfl (fun ls hl => ?_)
          refine lv_goto (tgt := 4) hx hb dX12_reserve_42 (by decide) ?_
          refine lv_iload_n hx hb dX12_reserve_4 rfl (lv_at hl 0 rfl) ?_
          refine lv_iconst (v := 4) hx hb dX12_reserve_5 (by decide) ?_
          refine lv_icmp_ge (tgt := 45) hx hb dX12_reserve_6 (by decide) (fun _ => ?_) (fun c_76 => absurd (by decide) c_76)
          refine lv_iload_n hx hb dX12_reserve_45 rfl (lv_at hl 1 rfl) ?_
          have hP9 := hP.sub (ws' := [(h0, .inr (17, [.ref ss, .ref tb, .ref pa, .ref ck, .ref ev, .ref pn, .ref lk, .ref jo, .ref orw, .ref nrw, .int g10, .int g11, .int g12, .int g13, .int g14, .int g15])), (ss, .inl (cSs, 4, .inr (.inr (.inr (.inr sf))))), (a0, .inr (15, [.ref tx0, .ref cd0, .ref ca0, .ref pl0, .int f4_0, .int f5_0, .int f6_0, .int f7_0, .int f8_0, .int f9_0, .int f10_0, .int f11_0, .int f12_0, .int f13_0, .int f14_0, .int f15_0])), (a1, .inr (15, [.ref tx1, .ref cd1, .ref ca1, .ref pl1, .int f4_1, .int f5_1, .int f6_1, .int f7_1, .int f8_1, .int f9_1, .int f10_1, .int f11_1, .int f12_1, .int f13_1, .int f14_1, .int f15_1])), (a2, .inr (15, [.ref tx2, .ref cd2, .ref ca2, .ref pl2, .int f4_2, .int f5_2, .int f6_2, .int f7_2, .int f8_2, .int f9_2, .int f10_2, .int f11_2, .int f12_2, .int f13_2, .int f14_2, .int f15_2])), (a3, .inr (15, [.ref tx3, .ref cd3, .ref ca3, .ref pl3, .int f4_3, .int f5_3, .int f6_3, .int f7_3, .int f8_3, .int f9_3, .int f10_3, .int f11_3, .int f12_3, .int f13_3, .int f14_3, .int f15_3]))]) [0, 1, 2, 3, 4, 5] rfl
          have hD9 := hD.sub (ws' := [(h0, .inr (17, [.ref ss, .ref tb, .ref pa, .ref ck, .ref ev, .ref pn, .ref lk, .ref jo, .ref orw, .ref nrw, .int g10, .int g11, .int g12, .int g13, .int g14, .int g15])), (ss, .inl (cSs, 4, .inr (.inr (.inr (.inr sf))))), (a0, .inr (15, [.ref tx0, .ref cd0, .ref ca0, .ref pl0, .int f4_0, .int f5_0, .int f6_0, .int f7_0, .int f8_0, .int f9_0, .int f10_0, .int f11_0, .int f12_0, .int f13_0, .int f14_0, .int f15_0])), (a1, .inr (15, [.ref tx1, .ref cd1, .ref ca1, .ref pl1, .int f4_1, .int f5_1, .int f6_1, .int f7_1, .int f8_1, .int f9_1, .int f10_1, .int f11_1, .int f12_1, .int f13_1, .int f14_1, .int f15_1])), (a2, .inr (15, [.ref tx2, .ref cd2, .ref ca2, .ref pl2, .int f4_2, .int f5_2, .int f6_2, .int f7_2, .int f8_2, .int f9_2, .int f10_2, .int f11_2, .int f12_2, .int f13_2, .int f14_2, .int f15_2])), (a3, .inr (15, [.ref tx3, .ref cd3, .ref ca3, .ref pl3, .int f4_3, .int f5_3, .int f6_3, .int f7_3, .int f8_3, .int f9_3, .int f10_3, .int f11_3, .int f12_3, .int f13_3, .int f14_3, .int f15_3]))]) [0, 1, 2, 3, 4, 5] (by decide) rfl
          have hK9 := hK.sub (tys' := [(cSs, .object RX10)]) [0] rfl
          exact W.iret (v := x_75) hx hb hr (fun t ht hW => ⟨⟨x_75, (), rfl, (by subst_vars; try (first | rw [if_pos c_2] | rw [if_neg c_2]); try (first | rw [if_pos c_42] | rw [if_neg c_42]); try (first | rw [if_pos c_62] | rw [if_neg c_62]); try (first | rw [if_pos c_72] | rw [if_neg c_72]); try rfl), by rw [ht]; exact hP9, va_K.moved hW.alike hK9, hD9⟩, hS.F ht⟩) hS.2.2 dX12_reserve_46
