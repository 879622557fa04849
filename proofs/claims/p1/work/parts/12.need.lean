abbrev cX12_needSession : ByteArray := prog_1_method_22_code
def yX12_needSession : MethodName := ⟨RX12, "needSession", "(I)V"⟩
abbrev cX12_needWhat : ByteArray := prog_1_method_23_code
def yX12_needWhat : MethodName := ⟨RX12, "needWhat", "(II)V"⟩
def wsX12_needSession : List Cond := .code yX12_needSession cX12_needSession 1 none :: ([.classLink RX12 282 "java/lang/IndexOutOfBoundsException", .initialized "java/lang/IndexOutOfBoundsException"] ++ (vx_atS RX12 286 "java/lang/IndexOutOfBoundsException" ["java/lang/RuntimeException", "java/lang/Exception"]).filter goodWord)
def wsX12_needWhat : List Cond := .code yX12_needWhat cX12_needWhat 2 none :: ([.classLink RX12 282 "java/lang/IndexOutOfBoundsException", .initialized "java/lang/IndexOutOfBoundsException"] ++ (vx_atS RX12 286 "java/lang/IndexOutOfBoundsException" ["java/lang/RuntimeException", "java/lang/Exception"]).filter goodWord)
theorem dX12_needSession_0 : decode cX12_needSession 0 = .ok (.iload_n 0, 1) := by decide +kernel
theorem dX12_needSession_1 : decode cX12_needSession 1 = .ok (.ifCond .lt 8, 3) := by decide +kernel
theorem dX12_needSession_4 : decode cX12_needSession 4 = .ok (.iload_n 0, 1) := by decide +kernel
theorem dX12_needSession_5 : decode cX12_needSession 5 = .ok (.iconst 4, 1) := by decide +kernel
theorem dX12_needSession_6 : decode cX12_needSession 6 = .ok (.if_icmp .lt 14, 3) := by decide +kernel
theorem dX12_needSession_9 : decode cX12_needSession 9 = .ok (.new 282, 3) := by decide +kernel
theorem dX12_needSession_12 : decode cX12_needSession 12 = .ok (.dup, 1) := by decide +kernel
theorem dX12_needSession_13 : decode cX12_needSession 13 = .ok (.ldc_w 316, 3) := by decide +kernel
theorem dX12_needSession_16 : decode cX12_needSession 16 = .ok (.invokespecial 286, 3) := by decide +kernel
theorem dX12_needSession_19 : decode cX12_needSession 19 = .ok (.athrow, 1) := by decide +kernel
theorem dX12_needSession_20 : decode cX12_needSession 20 = .ok (.return_, 1) := by decide +kernel
theorem dX12_needWhat_0 : decode cX12_needWhat 0 = .ok (.iload_n 0, 1) := by decide +kernel
theorem dX12_needWhat_1 : decode cX12_needWhat 1 = .ok (.ifCond .lt 8, 3) := by decide +kernel
theorem dX12_needWhat_4 : decode cX12_needWhat 4 = .ok (.iload_n 0, 1) := by decide +kernel
theorem dX12_needWhat_5 : decode cX12_needWhat 5 = .ok (.iload_n 1, 1) := by decide +kernel
theorem dX12_needWhat_6 : decode cX12_needWhat 6 = .ok (.if_icmp .le 14, 3) := by decide +kernel
theorem dX12_needWhat_9 : decode cX12_needWhat 9 = .ok (.new 282, 3) := by decide +kernel
theorem dX12_needWhat_12 : decode cX12_needWhat 12 = .ok (.dup, 1) := by decide +kernel
theorem dX12_needWhat_13 : decode cX12_needWhat 13 = .ok (.ldc_w 318, 3) := by decide +kernel
theorem dX12_needWhat_16 : decode cX12_needWhat 16 = .ok (.invokespecial 286, 3) := by decide +kernel
theorem dX12_needWhat_19 : decode cX12_needWhat 19 = .ok (.athrow, 1) := by decide +kernel
theorem dX12_needWhat_20 : decode cX12_needWhat 20 = .ok (.return_, 1) := by decide +kernel
set_option maxHeartbeats 4000000 in
set_option maxRecDepth 100000 in
/-- needSession(session) -/
theorem c_X12_needSession (l : Launch) (hl9 : l.stackTraces = false) (dC : Nat → ClassId) (dI : Nat → Nat → Nat) (sz : Nat) (p0 : Int32) (sS : Nat) : vx_Met l yX12_needSession wsX12_needSession ({ frames := 6, cells := 1, slots := 6, locals := 100 }) (va_Pc [.int p0] (fun U => U.heap.size = sz ∧ va_P (dC, dI) vwCl [] U.heap ∧ va_K (dC, dI) vwCl [] U ∧ va_D (fun _ => True) [] ∧ vk_R RX12 316 "no such session" sS U ∧ qh_E "java/lang/IndexOutOfBoundsException" "(Ljava/lang/String;)V" U ∧ qh_T (va_A [] sz) U U.heap)) (va_Qv (fun (_ : Unit) => ¬ p0 < 0 ∧ p0 < 4) (fun (_ : Unit) (t : State) => va_P (dC, dI) vwCl [] t.heap ∧ va_K (dC, dI) vwCl [] t ∧ va_D (va_A [] sz) []) (va_A [] sz)) (vx_X (fun (_ : Unit) => p0 < 0 ∨ ¬ p0 < 4) (fun E (_ : Unit) t => E = "java/lang/IndexOutOfBoundsException" ∧ va_P (dC, dI) vwCl [] t.heap ∧ va_K (dC, dI) vwCl [] t ∧ va_D (va_A [] sz) []) (va_A [] sz)) 1 6 (va_A [] sz) := by
  refine vx_ofW (cc := cX12_needSession) (maxL := 1) (ret := none) (by decide) rfl ?_
  intro p e s m args below meth c s₁ B hml hEx hv
  obtain ⟨rfl, hsz, hP, hK, hD0, hE0, hE1, hE2⟩ := hv
  have hx := B.exec
  have hb := B.bytes
  have hr := B.returns
  have hts := atoms_spec (ws := wsX12_needSession) B.pre
  have hown : s.vm.findClass RX12 = some m.cls := findClass_of_methodNamed B.named
  have hlocks := B.notSynchronized
  subst hsz
  have hD := hD0.self (sz := s.heap.size)
  generalize hAe : va_A [] s.heap.size = A at hD hE2 ⊢
  have hA : ∀ q : Nat, s.heap.size ≤ q → A q := fun q h => by rw [← hAe]; exact Or.inr h
  have hS : va_S A s.heap s.heap [] := va_S.rf
  have hP : va_P (dC, dI) vwCl [] s.heap := hP
  have hl := lv_entry ([.int p0]) (n := 1) (Nat.le_of_ble_eq_true rfl)
  rw [lg_entry_eq]
  generalize (lg_sl ([.int p0]) ++ List.replicate (1 - (lg_sl ([.int p0])).length) Slot.unset).toArray = ls at hl ⊢
  have hl : lv_has ls 1 [(0, .int p0)] := hl
  refine lv_iload_n hx hb dX12_needSession_0 rfl (lv_at hl 0 rfl) ?_
  refine lv_if_lt (tgt := 9) hx hb dX12_needSession_1 (by decide) (fun c_1 => ?_) (fun c_1 => ?_)
  · skip
    have hP9 := hP.sub (ws' := []) [] rfl
    have hD9 := hD.sub (ws' := []) [] (by decide) rfl
    have hK9 := hK.sub (tys' := []) [] rfl
    exact vx_throwSW (own := RX12) (cls := "java/lang/IndexOutOfBoundsException") (names := ["java/lang/RuntimeException", "java/lang/Exception"]) hx hb hl9 hown (by decide +kernel) (by decide +kernel) (hts (.classLink RX12 282 "java/lang/IndexOutOfBoundsException") (by decide +kernel)) (hts (.initialized "java/lang/IndexOutOfBoundsException") (by decide +kernel)) hE0 (vx_hat (L := vx_atS RX12 286 "java/lang/IndexOutOfBoundsException" ["java/lang/RuntimeException", "java/lang/Exception"]) (B := [.castable "java/lang/IndexOutOfBoundsException" "java/lang/IndexOutOfBoundsException", .declares ⟨"java/lang/RuntimeException", "<init>", "(Ljava/lang/String;)V"⟩, .declares ⟨"java/lang/Exception", "<init>", "(Ljava/lang/String;)V"⟩, .declares ⟨"java/lang/Throwable", "<init>", "(Ljava/lang/String;)V"⟩]) (fun w hw => hts w ((by decide +kernel : ∀ w ∈ (vx_atS RX12 286 "java/lang/IndexOutOfBoundsException" ["java/lang/RuntimeException", "java/lang/Exception"]).filter goodWord, w ∈ wsX12_needSession) w hw)) (by decide +kernel) (vx_c (va_Nw.use rfl hE1.1) (vx_c (va_Nw.use rfl hE1.2.1) (vx_c (va_Nw.use rfl hE1.2.2.1) (vx_c (va_Nw.use rfl hE1.2.2.2) (vx_n)))))) (by decide +kernel) hE2.1 hE2.2 hS (hl.1.trans hml.symm) dX12_needSession_9 dX12_needSession_12 dX12_needSession_13 dX12_needSession_16 dX12_needSession_19 (fun x hx => (hEx x hx).elim) (Nat.le_of_ble_eq_true rfl) (Nat.le_of_ble_eq_true rfl) (Nat.le_of_ble_eq_true rfl) (Nat.le_of_ble_eq_true rfl) hlocks (fun t ha hsz hk => ⟨(), (by first | exact Or.inl (by assumption) | exact Or.inr (by assumption)), ⟨rfl, hP9.kept (fun k q hq => hk q.1 (hP9 k q hq).lt), va_K.moved ha hK9, hD9⟩, Nat.le_trans hS.1 hsz, fun q h1 h2 => (hk q (Nat.lt_of_lt_of_le h1 hS.1)).trans (hS.2.1 q h1 h2)⟩) hS.2.2 (Nat.le_of_ble_eq_true rfl) (Nat.le_of_ble_eq_true rfl)
  · skip
    refine lv_iload_n hx hb dX12_needSession_4 rfl (lv_at hl 0 rfl) ?_
    refine lv_iconst (v := 4) hx hb dX12_needSession_5 (by decide) ?_
    refine lv_icmp_lt (tgt := 20) hx hb dX12_needSession_6 (by decide) (fun c_2 => ?_) (fun c_2 => ?_)
    · skip
      have hP9 := hP.sub (ws' := []) [] rfl
      have hD9 := hD.sub (ws' := []) [] (by decide) rfl
      have hK9 := hK.sub (tys' := []) [] rfl
      refine W.widen (k := 1) (n := 6) (Nat.le_of_ble_eq_true rfl) (Nat.le_of_ble_eq_true rfl) ?_
      exact vx_ret (W.vret hx hb hr (fun t ht hW => ⟨⟨(), rfl, ⟨by assumption, by assumption⟩, by rw [ht]; exact hP9, va_K.moved hW.alike hK9, hD9⟩, hS.F ht⟩) hS.2.2 dX12_needSession_20)
    · skip
      have hP9 := hP.sub (ws' := []) [] rfl
      have hD9 := hD.sub (ws' := []) [] (by decide) rfl
      have hK9 := hK.sub (tys' := []) [] rfl
      exact vx_throwSW (own := RX12) (cls := "java/lang/IndexOutOfBoundsException") (names := ["java/lang/RuntimeException", "java/lang/Exception"]) hx hb hl9 hown (by decide +kernel) (by decide +kernel) (hts (.classLink RX12 282 "java/lang/IndexOutOfBoundsException") (by decide +kernel)) (hts (.initialized "java/lang/IndexOutOfBoundsException") (by decide +kernel)) hE0 (vx_hat (L := vx_atS RX12 286 "java/lang/IndexOutOfBoundsException" ["java/lang/RuntimeException", "java/lang/Exception"]) (B := [.castable "java/lang/IndexOutOfBoundsException" "java/lang/IndexOutOfBoundsException", .declares ⟨"java/lang/RuntimeException", "<init>", "(Ljava/lang/String;)V"⟩, .declares ⟨"java/lang/Exception", "<init>", "(Ljava/lang/String;)V"⟩, .declares ⟨"java/lang/Throwable", "<init>", "(Ljava/lang/String;)V"⟩]) (fun w hw => hts w ((by decide +kernel : ∀ w ∈ (vx_atS RX12 286 "java/lang/IndexOutOfBoundsException" ["java/lang/RuntimeException", "java/lang/Exception"]).filter goodWord, w ∈ wsX12_needSession) w hw)) (by decide +kernel) (vx_c (va_Nw.use rfl hE1.1) (vx_c (va_Nw.use rfl hE1.2.1) (vx_c (va_Nw.use rfl hE1.2.2.1) (vx_c (va_Nw.use rfl hE1.2.2.2) (vx_n)))))) (by decide +kernel) hE2.1 hE2.2 hS (hl.1.trans hml.symm) dX12_needSession_9 dX12_needSession_12 dX12_needSession_13 dX12_needSession_16 dX12_needSession_19 (fun x hx => (hEx x hx).elim) (Nat.le_of_ble_eq_true rfl) (Nat.le_of_ble_eq_true rfl) (Nat.le_of_ble_eq_true rfl) (Nat.le_of_ble_eq_true rfl) hlocks (fun t ha hsz hk => ⟨(), (by first | exact Or.inl (by assumption) | exact Or.inr (by assumption)), ⟨rfl, hP9.kept (fun k q hq => hk q.1 (hP9 k q hq).lt), va_K.moved ha hK9, hD9⟩, Nat.le_trans hS.1 hsz, fun q h1 h2 => (hk q (Nat.lt_of_lt_of_le h1 hS.1)).trans (hS.2.1 q h1 h2)⟩) hS.2.2 (Nat.le_of_ble_eq_true rfl) (Nat.le_of_ble_eq_true rfl)
set_option maxHeartbeats 4000000 in
set_option maxRecDepth 100000 in
/-- needWhat(what, most) -/
theorem c_X12_needWhat (l : Launch) (hl9 : l.stackTraces = false) (dC : Nat → ClassId) (dI : Nat → Nat → Nat) (sz : Nat) (p0 p1 : Int32) (sW : Nat) : vx_Met l yX12_needWhat wsX12_needWhat ({ frames := 6, cells := 1, slots := 6, locals := 100 }) (va_Pc [.int p0, .int p1] (fun U => U.heap.size = sz ∧ va_P (dC, dI) vwCl [] U.heap ∧ va_K (dC, dI) vwCl [] U ∧ va_D (fun _ => True) [] ∧ vk_R RX12 318 "nothing is told of that" sW U ∧ qh_E "java/lang/IndexOutOfBoundsException" "(Ljava/lang/String;)V" U ∧ qh_T (va_A [] sz) U U.heap)) (va_Qv (fun (_ : Unit) => ¬ p0 < 0 ∧ p0 ≤ p1) (fun (_ : Unit) (t : State) => va_P (dC, dI) vwCl [] t.heap ∧ va_K (dC, dI) vwCl [] t ∧ va_D (va_A [] sz) []) (va_A [] sz)) (vx_X (fun (_ : Unit) => p0 < 0 ∨ ¬ p0 ≤ p1) (fun E (_ : Unit) t => E = "java/lang/IndexOutOfBoundsException" ∧ va_P (dC, dI) vwCl [] t.heap ∧ va_K (dC, dI) vwCl [] t ∧ va_D (va_A [] sz) []) (va_A [] sz)) 1 6 (va_A [] sz) := by
  refine vx_ofW (cc := cX12_needWhat) (maxL := 2) (ret := none) (by decide) rfl ?_
  intro p e s m args below meth c s₁ B hml hEx hv
  obtain ⟨rfl, hsz, hP, hK, hD0, hE0, hE1, hE2⟩ := hv
  have hx := B.exec
  have hb := B.bytes
  have hr := B.returns
  have hts := atoms_spec (ws := wsX12_needWhat) B.pre
  have hown : s.vm.findClass RX12 = some m.cls := findClass_of_methodNamed B.named
  have hlocks := B.notSynchronized
  subst hsz
  have hD := hD0.self (sz := s.heap.size)
  generalize hAe : va_A [] s.heap.size = A at hD hE2 ⊢
  have hA : ∀ q : Nat, s.heap.size ≤ q → A q := fun q h => by rw [← hAe]; exact Or.inr h
  have hS : va_S A s.heap s.heap [] := va_S.rf
  have hP : va_P (dC, dI) vwCl [] s.heap := hP
  have hl := lv_entry ([.int p0, .int p1]) (n := 2) (Nat.le_of_ble_eq_true rfl)
  rw [lg_entry_eq]
  generalize (lg_sl ([.int p0, .int p1]) ++ List.replicate (2 - (lg_sl ([.int p0, .int p1])).length) Slot.unset).toArray = ls at hl ⊢
  have hl : lv_has ls 2 [(0, .int p0), (1, .int p1)] := hl
  refine lv_iload_n hx hb dX12_needWhat_0 rfl (lv_at hl 0 rfl) ?_
  refine lv_if_lt (tgt := 9) hx hb dX12_needWhat_1 (by decide) (fun c_1 => ?_) (fun c_1 => ?_)
  · skip
    have hP9 := hP.sub (ws' := []) [] rfl
    have hD9 := hD.sub (ws' := []) [] (by decide) rfl
    have hK9 := hK.sub (tys' := []) [] rfl
    exact vx_throwSW (own := RX12) (cls := "java/lang/IndexOutOfBoundsException") (names := ["java/lang/RuntimeException", "java/lang/Exception"]) hx hb hl9 hown (by decide +kernel) (by decide +kernel) (hts (.classLink RX12 282 "java/lang/IndexOutOfBoundsException") (by decide +kernel)) (hts (.initialized "java/lang/IndexOutOfBoundsException") (by decide +kernel)) hE0 (vx_hat (L := vx_atS RX12 286 "java/lang/IndexOutOfBoundsException" ["java/lang/RuntimeException", "java/lang/Exception"]) (B := [.castable "java/lang/IndexOutOfBoundsException" "java/lang/IndexOutOfBoundsException", .declares ⟨"java/lang/RuntimeException", "<init>", "(Ljava/lang/String;)V"⟩, .declares ⟨"java/lang/Exception", "<init>", "(Ljava/lang/String;)V"⟩, .declares ⟨"java/lang/Throwable", "<init>", "(Ljava/lang/String;)V"⟩]) (fun w hw => hts w ((by decide +kernel : ∀ w ∈ (vx_atS RX12 286 "java/lang/IndexOutOfBoundsException" ["java/lang/RuntimeException", "java/lang/Exception"]).filter goodWord, w ∈ wsX12_needWhat) w hw)) (by decide +kernel) (vx_c (va_Nw.use rfl hE1.1) (vx_c (va_Nw.use rfl hE1.2.1) (vx_c (va_Nw.use rfl hE1.2.2.1) (vx_c (va_Nw.use rfl hE1.2.2.2) (vx_n)))))) (by decide +kernel) hE2.1 hE2.2 hS (hl.1.trans hml.symm) dX12_needWhat_9 dX12_needWhat_12 dX12_needWhat_13 dX12_needWhat_16 dX12_needWhat_19 (fun x hx => (hEx x hx).elim) (Nat.le_of_ble_eq_true rfl) (Nat.le_of_ble_eq_true rfl) (Nat.le_of_ble_eq_true rfl) (Nat.le_of_ble_eq_true rfl) hlocks (fun t ha hsz hk => ⟨(), (by first | exact Or.inl (by assumption) | exact Or.inr (by assumption)), ⟨rfl, hP9.kept (fun k q hq => hk q.1 (hP9 k q hq).lt), va_K.moved ha hK9, hD9⟩, Nat.le_trans hS.1 hsz, fun q h1 h2 => (hk q (Nat.lt_of_lt_of_le h1 hS.1)).trans (hS.2.1 q h1 h2)⟩) hS.2.2 (Nat.le_of_ble_eq_true rfl) (Nat.le_of_ble_eq_true rfl)
  · skip
    refine lv_iload_n hx hb dX12_needWhat_4 rfl (lv_at hl 0 rfl) ?_
    refine lv_iload_n hx hb dX12_needWhat_5 rfl (lv_at hl 1 rfl) ?_
    refine lv_icmp_le (tgt := 20) hx hb dX12_needWhat_6 (by decide) (fun c_2 => ?_) (fun c_2 => ?_)
    · skip
      have hP9 := hP.sub (ws' := []) [] rfl
      have hD9 := hD.sub (ws' := []) [] (by decide) rfl
      have hK9 := hK.sub (tys' := []) [] rfl
      refine W.widen (k := 1) (n := 6) (Nat.le_of_ble_eq_true rfl) (Nat.le_of_ble_eq_true rfl) ?_
      exact vx_ret (W.vret hx hb hr (fun t ht hW => ⟨⟨(), rfl, ⟨by assumption, by assumption⟩, by rw [ht]; exact hP9, va_K.moved hW.alike hK9, hD9⟩, hS.F ht⟩) hS.2.2 dX12_needWhat_20)
    · skip
      have hP9 := hP.sub (ws' := []) [] rfl
      have hD9 := hD.sub (ws' := []) [] (by decide) rfl
      have hK9 := hK.sub (tys' := []) [] rfl
      exact vx_throwSW (own := RX12) (cls := "java/lang/IndexOutOfBoundsException") (names := ["java/lang/RuntimeException", "java/lang/Exception"]) hx hb hl9 hown (by decide +kernel) (by decide +kernel) (hts (.classLink RX12 282 "java/lang/IndexOutOfBoundsException") (by decide +kernel)) (hts (.initialized "java/lang/IndexOutOfBoundsException") (by decide +kernel)) hE0 (vx_hat (L := vx_atS RX12 286 "java/lang/IndexOutOfBoundsException" ["java/lang/RuntimeException", "java/lang/Exception"]) (B := [.castable "java/lang/IndexOutOfBoundsException" "java/lang/IndexOutOfBoundsException", .declares ⟨"java/lang/RuntimeException", "<init>", "(Ljava/lang/String;)V"⟩, .declares ⟨"java/lang/Exception", "<init>", "(Ljava/lang/String;)V"⟩, .declares ⟨"java/lang/Throwable", "<init>", "(Ljava/lang/String;)V"⟩]) (fun w hw => hts w ((by decide +kernel : ∀ w ∈ (vx_atS RX12 286 "java/lang/IndexOutOfBoundsException" ["java/lang/RuntimeException", "java/lang/Exception"]).filter goodWord, w ∈ wsX12_needWhat) w hw)) (by decide +kernel) (vx_c (va_Nw.use rfl hE1.1) (vx_c (va_Nw.use rfl hE1.2.1) (vx_c (va_Nw.use rfl hE1.2.2.1) (vx_c (va_Nw.use rfl hE1.2.2.2) (vx_n)))))) (by decide +kernel) hE2.1 hE2.2 hS (hl.1.trans hml.symm) dX12_needWhat_9 dX12_needWhat_12 dX12_needWhat_13 dX12_needWhat_16 dX12_needWhat_19 (fun x hx => (hEx x hx).elim) (Nat.le_of_ble_eq_true rfl) (Nat.le_of_ble_eq_true rfl) (Nat.le_of_ble_eq_true rfl) (Nat.le_of_ble_eq_true rfl) hlocks (fun t ha hsz hk => ⟨(), (by first | exact Or.inl (by assumption) | exact Or.inr (by assumption)), ⟨rfl, hP9.kept (fun k q hq => hk q.1 (hP9 k q hq).lt), va_K.moved ha hK9, hD9⟩, Nat.le_trans hS.1 hsz, fun q h1 h2 => (hk q (Nat.lt_of_lt_of_le h1 hS.1)).trans (hS.2.1 q h1 h2)⟩) hS.2.2 (Nat.le_of_ble_eq_true rfl) (Nat.le_of_ble_eq_true rfl)
