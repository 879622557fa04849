

theorem qh_kw_mono (bf : Nat → Int32) (k : Nat) : (qh_kw bf k).1 ≤ (qh_kw bf (k + 1)).1 := by
  by_cases h : qh_ch bf k = 32
  · rw [qh_kw_sp h]; exact Nat.le_succ _
  · rw [qh_kw_no h]; exact Nat.le_refl _
theorem qh_kw_le (bf : Nat → Int32) {k m : Nat} (h : k ≤ m) : (qh_kw bf k).1 ≤ (qh_kw bf m).1 := by
  induction h with
  | refl => exact Nat.le_refl _
  | step _ ih => exact Nat.le_trans ih (qh_kw_mono bf _)
theorem qh_km_mono (bf : Nat → Int32) (k : Nat) : (qh_km bf k).1 ≤ (qh_km bf (k + 1)).1 := by
  by_cases h : qh_ch bf k = 32
  · rw [qh_km_sp h]; exact Nat.le_succ _
  · rw [qh_km_no h]; exact Nat.le_refl _
theorem qh_km_le (bf : Nat → Int32) {k m : Nat} (h : k ≤ m) : (qh_km bf k).1 ≤ (qh_km bf m).1 := by
  induction h with
  | refl => exact Nat.le_refl _
  | step _ ih => exact Nat.le_trans ih (qh_km_mono bf _)
def qh_by1 : List Int32 := [99, 114, 101, 97, 116, 101, 32, 116, 97, 98, 108, 101, 32, 105, 110, 100, 101, 120, 32, 111, 110, 32, 105, 110, 115, 101, 114, 116, 32, 105, 110, 116, 111, 32, 118, 97, 108, 117, 101, 115, 32, 117, 112, 100, 97, 116, 101, 32, 115, 101, 116, 32, 119, 104, 101, 114, 101, 32, 100, 101, 108, 101, 116, 101, 32, 102, 114, 111, 109, 32, 98, 101, 103, 105, 110, 32, 99, 111, 109, 109, 105, 116, 32, 114, 111, 108, 108, 98, 97, 99, 107, 32, 110, 117, 109, 98, 101, 114, 32, 116, 114, 117, 116, 104, 32, 116, 101, 120, 116, 32, 110, 111, 116, 32, 110, 117, 108, 108, 32, 115, 101, 108, 101, 99, 116, 32, 100, 105, 115, 116, 105, 110, 99, 116, 32, 108, 101, 102, 116, 32, 106, 111, 105, 110, 32, 103, 114, 111, 117, 112, 32, 98, 121, 32, 104, 97, 118, 105, 110, 103, 32, 111, 114, 100, 101, 114, 32, 100, 101, 115, 99, 32, 111, 114, 32, 97, 110, 100, 32, 105, 115, 32, 105, 110, 32, 116, 114, 117, 101, 32, 102, 97, 108, 115, 101, 32, 99, 111, 117, 110, 116, 32, 115, 117, 109, 32, 109, 105, 110, 32, 109, 97, 120, 32, 101, 120, 105, 115, 116, 115, 32]
def qh_by2 : List Int32 := [99, 114, 101, 97, 116, 101, 32, 116, 97, 98, 108, 101, 32, 105, 110, 100, 101, 120, 32, 111, 110, 32, 105, 110, 115, 101, 114, 116, 32, 105, 110, 116, 111, 32, 118, 97, 108, 117, 101, 115, 32, 117, 112, 100, 97, 116, 101, 32, 115, 101, 116, 32, 119, 104, 101, 114, 101, 32, 100, 101, 108, 101, 116, 101, 32, 102, 114, 111, 109, 32, 98, 101, 103, 105, 110, 32, 99, 111, 109, 109, 105, 116, 32, 114, 111, 108, 108, 98, 97, 99, 107, 32, 110, 117, 109, 98, 101, 114, 32, 116, 114, 117, 116, 104, 32, 116, 101, 120, 116, 32, 110, 111, 116, 32, 110, 117, 108, 108, 32, 115, 101, 108, 101, 99, 116, 32, 100, 105, 115, 116, 105, 110, 99, 116, 32, 108, 101, 102, 116, 32, 106, 111, 105, 110, 32, 103, 114, 111, 117, 112, 32, 98, 121, 32, 104, 97, 118, 105, 110, 103, 32, 111, 114, 100, 101, 114, 32, 100, 101, 115, 99, 32, 111, 114, 32, 97, 110, 100, 32, 105, 115, 32, 105, 110, 32, 116, 114, 117, 101, 32, 102, 97, 108, 115, 101, 32, 99, 111, 117, 110, 116, 32, 101, 120, 105, 115, 116, 115, 32, 115, 117, 109, 32, 109, 105, 110, 32, 109, 97, 120, 32]
theorem qh_kwF : (qh_kw (fun j => qh_by1.getD j 0) 220).1 < 40 := by decide +kernel
theorem qh_kmF : (qh_km (fun j => qh_by2.getD j 0) 220).1 < 40 := by decide +kernel
theorem qh_tyP {args : Array Value} {s : State} {t : FieldType} (h : (Cond.arrayClass t).before args s = true) : ∃ c : ClassId, ArrOfT s c t ∧ s.vm.findClass ("[" ++ t.toString) = some c := by
  obtain ⟨c, k, comp, h1, h2, h3⟩ := Cond.arrayClass_spec h
  exact ⟨c, fun _ _ => ⟨fun q hq => by cases hq, k, h2, comp, h3⟩, h1⟩
theorem qh_tyO {args : Array Value} {s : State} {C : String} (h : (Cond.arrayOver (.object C)).before args s = true) : ∃ c : ClassId, ArrOfT s c (.object C) ∧ va_RA s c (.object C) := by
  obtain ⟨comp, c, k, h1, -, h2, h3, h4⟩ := Cond.arrayOver_spec h
  exact ⟨c, fun _ _ => ⟨fun q hq => by cases hq, k, h2, comp, h3⟩, k, comp, h2, h3, h1, h4⟩
theorem qh_tyA {args : Array Value} {s : State} {t : FieldType} (h : (Cond.arrayOver (.array t)).before args s = true) : ∃ c : ClassId, ArrOfT s c (.array t) ∧ s.vm.findClass ("[" ++ (FieldType.array t).toString) = some c := by
  obtain ⟨comp, c, k, h1, h2, h3, h4⟩ := Cond.arrayOver_specA h
  exact ⟨c, fun _ _ => ⟨fun q hq => by cases hq, k, h2, comp, h3⟩, h4⟩
theorem qh_str {args : Array Value} {s : State} {own tx : String} {k : Nat} (h : (Cond.stringRef own k tx).before args s = true) : ∃ a : Nat, vk_R own k tx a s := by
  have h1 : (Cond.stringRef own k tx).holds args s none s [] = true := h
  cases hc : s.vm.findClass own with
  | none => simp [Cond.holds, Cond.value, hc] at h1
  | some cur =>
    obtain ⟨_, _, _, a, _, _, _, _, _, h9⟩ := Cond.stringRef_spec hc h1
    refine ⟨a, vk_R.same (u := s) rfl ?_⟩
    exact ⟨va_tabs rfl rfl h, h9⟩
theorem qh_clin : ∀ q ∈ vwCl, ∀ w ∈ u_ws q.1 q.2.1 q.2.2, w ∈ lw_tbl := by decide +kernel
theorem qh_clins : ∀ q ∈ vwCl, Cond.instantiable q.1 q.2.2 ∈ lw_tbl := by decide +kernel
theorem qh_wd {L : List Cond} {s : State} {args : Array Value} (hg : L.all goodWord = true) (hts : ∀ w ∈ lw_tbl, w.before args s = true) (hi : ∀ w ∈ L, w ∈ lw_tbl) : qh_Wd L s := ⟨hg, fun w hw => word_at (State.WarmedH.refl s) (good_of_word (List.all_eq_true.mp hg w hw)) (hts w (hi w hw))⟩
theorem qh_su {X : String} {ic : Nat} {s : State} {args : Array Value} (hts : ∀ w ∈ lw_tbl, w.before args s = true) (hi : ∀ w ∈ qh_supG X ic, w ∈ lw_tbl) (h1 : Cond.declares (Bundle.init0 "java/lang/Exception") ∈ lw_tbl) (h2 : Cond.declares (Bundle.init0 Bundle.tN) ∈ lw_tbl) : qh_Su X ic s := ⟨fun w hw => word_at (State.WarmedH.refl s) (good_of_word (List.mem_filter.mp hw).2) (hts w (hi w hw)), va_Nw.of rfl (hts _ h1), va_Nw.of rfl (hts _ h2)⟩
set_option maxHeartbeats 40000000 in
set_option maxRecDepth 100000 in
theorem whole_start {p : Program} {e : Env} {s : State} {m : MethodId} {below : List Frame} {meth : Method} {c : Code} (l : Launch) (hl9 : l.stackTraces = false) {b L : Nat} {xs : Nat → Int32} (hL : L ≤ 5) (C0 : lw_At p s m meth c b L xs) : W p l e room_1 s m #[Value.ref b] below meth c s.heap [] 0 0 (lw_Z below #[Value.ref b] s) (entryFrame m ([Value.ref b] : List Value).toArray 8) := by
  obtain ⟨hx, hb, hr, hml, hown, hts0, hX, hbl, hlocks, hgv⟩ := C0
  have hts : ∀ w ∈ wsL_law, w.before #[Value.ref b] s = true := fun w h => hts0 w (wsL_law_in w h)
  have htx : ∀ w ∈ qh_LW, w.before #[Value.ref b] s = true := fun w h => (List.mem_append.mp h).elim (hts w) (fun h => hts0 w ((by decide +kernel : ∀ w ∈ ([.classLink RL 15 "java/lang/IllegalArgumentException", .classLink RL 21 "java/lang/IllegalStateException"] : List Cond), w ∈ lw_tbl) w h))
  have hq := flat_of_before _ hgv
  obtain ⟨A, hAd⟩ : ∃ A : Nat → Prop, A = fun q => s.heap.size ≤ q := ⟨_, rfl⟩
  have hA : ∀ q : Nat, s.heap.size ≤ q → A q := fun q h => by rw [hAd]; exact h
  have hAi : ∀ q : Nat, A q → s.heap.size ≤ q := fun q h => by rw [hAd] at h; exact h
  have hnA : ∀ a : Nat, a < s.heap.size → ¬ A a := fun a h z => Nat.not_le.mpr h (hAi a z)
  have hex : ∀ c : Nat, ∃ x : ClassId × (Nat → Nat), ∀ q, vwCl[c]? = some q → u_Kn s q.1 q.2.1 q.2.2 x.1 x.2 := by
    intro c
    cases hc : vwCl[c]? with
    | none => exact ⟨(0, fun _ => 0), fun q h => by cases h⟩
    | some q =>
      obtain ⟨cC, iS, h⟩ := u_known hts0 (qh_clin q (List.mem_of_getElem? hc)) (hts0 _ (qh_clins q (List.mem_of_getElem? hc)))
      exact ⟨(cC, iS), fun q2 h2 => by cases h2; exact h⟩
  obtain ⟨fC, hfC⟩ := Classical.axiomOfChoice hex
  obtain ⟨cI, hcI⟩ := qh_tyP (hts0 (.arrayClass .int) (by decide +kernel))
  obtain ⟨cJ, hcJ⟩ := qh_tyP (hts0 (.arrayClass .long) (by decide +kernel))
  obtain ⟨cB, hcB⟩ := qh_tyP (hts0 (.arrayClass .byte) (by decide +kernel))
  obtain ⟨cZ, hcZ⟩ := qh_tyP (hts0 (.arrayClass .boolean) (by decide +kernel))
  obtain ⟨cJJ, hcJJ⟩ := qh_tyA (hts0 (.arrayOver (.array .long)) (by decide +kernel))
  obtain ⟨cII, hcII⟩ := qh_tyA (hts0 (.arrayOver (.array .int)) (by decide +kernel))
  obtain ⟨cPl, hcPl⟩ := qh_tyO (hts0 (.arrayOver (.object RX7)) (by decide +kernel))
  obtain ⟨cSs, hcSs⟩ := qh_tyO (hts0 (.arrayOver (.object RX10)) (by decide +kernel))
  obtain ⟨cTb, hcTb⟩ := qh_tyO (hts0 (.arrayOver (.object RX11)) (by decide +kernel))
  obtain ⟨cSt, hcSt⟩ := qh_tyO (hts0 (.arrayOver (.object RX20)) (by decide +kernel))
  obtain ⟨cLk, hcLk⟩ := qh_tyO (hts0 (.arrayOver (.object RX16)) (by decide +kernel))
  have hK : va_K ((fun c => (fC c).1), (fun c => (fC c).2)) vwCl [(cI, .int), (cJ, .long), (cB, .byte), (cZ, .boolean), (cJJ, .array .long), (cII, .array .int), (cPl, .object RX7), (cSs, .object RX10), (cTb, .object RX11), (cSt, .object RX20), (cLk, .object RX16)] s := by
    refine ⟨fun c q h => hfC c q h, fun k q hk => ?_⟩
    rcases (show k = 0 ∨ k = 1 ∨ k = 2 ∨ k = 3 ∨ k = 4 ∨ k = 5 ∨ k = 6 ∨ k = 7 ∨ k = 8 ∨ k = 9 ∨ k = 10 ∨ 11 ≤ k by omega) with rfl | rfl | rfl | rfl | rfl | rfl | rfl | rfl | rfl | rfl | rfl | h9
    · cases hk; exact hcI
    · cases hk; exact hcJ
    · cases hk; exact hcB
    · cases hk; exact hcZ
    · cases hk; exact hcJJ
    · cases hk; exact hcII
    · cases hk; exact hcPl
    · cases hk; exact hcSs
    · cases hk; exact hcTb
    · cases hk; exact hcSt
    · cases hk; exact hcLk
    · rw [List.getElem?_eq_none h9] at hk; cases hk
  obtain ⟨aK1, aV1, hT1, hN1⟩ := vk_Sof (args := #[Value.ref b]) (s := s) (N := 1) (tm := fun _ => .string "QueryHall$Parser" 25) (len := [221]) (byt := [qh_by1]) (A := A) (fun i hi => by rw [show i = 0 by omega]; decide) (fun i hi => hq _ (by decide +kernel)) (fun i hi => hq _ (by decide +kernel)) (fun i hi => hq _ (by decide +kernel)) (fun i hi => by rw [show i = 0 by omega]; exact hq _ (by decide +kernel)) (fun i hi j hj => by rw [show i = 0 by omega] at hj ⊢; exact hq _ ((by decide +kernel : ∀ j : Nat, j < 221 → Cond.eq (.elem (.field (.string "QueryHall$Parser" 25) "java/lang/String" "value" "[B") (.int (Int32.ofNat j))) (.int (qh_by1.getD j 0)) ∈ flatC (Jvm.Cond.and given_1 narrow_1)) j hj)) (fun i j hi hj h => absurd (show i = j by omega) h) hnA
  obtain ⟨aK2, aV2, hT2, hN2⟩ := vk_Sof (args := #[Value.ref b]) (s := s) (N := 1) (tm := fun _ => .string "QueryHallModel" 240) (len := [221]) (byt := [qh_by2]) (A := A) (fun i hi => by rw [show i = 0 by omega]; decide) (fun i hi => hq _ (by decide +kernel)) (fun i hi => hq _ (by decide +kernel)) (fun i hi => hq _ (by decide +kernel)) (fun i hi => by rw [show i = 0 by omega]; exact hq _ (by decide +kernel)) (fun i hi j hj => by rw [show i = 0 by omega] at hj ⊢; exact hq _ ((by decide +kernel : ∀ j : Nat, j < 221 → Cond.eq (.elem (.field (.string "QueryHallModel" 240) "java/lang/String" "value" "[B") (.int (Int32.ofNat j))) (.int (qh_by2.getD j 0)) ∈ flatC (Jvm.Cond.and given_1 narrow_1)) j hj)) (fun i j hi hj h => absurd (show i = j by omega) h) hnA
  obtain ⟨ed, _, _, _, hed, _⟩ := Cond.exactly_spec (args := #[Value.ref b]) (first := s) (o := none) (s := s) (idx := []) (t := .static "java/util/ArrayList" "DEFAULTCAPACITY_EMPTY_ELEMENTDATA" "[Ljava/lang/Object;") (cls := "[Ljava/lang/Object;") (hq _ (by decide +kernel))
  obtain ⟨sS, hE0⟩ := qh_str (hts0 (.stringRef RX12 316 "no such session") (by decide +kernel))
  have hE1 : qh_E "java/lang/IndexOutOfBoundsException" "(Ljava/lang/String;)V" s := ⟨va_Nw.of rfl (hts0 (.castable "java/lang/IndexOutOfBoundsException" "java/lang/IndexOutOfBoundsException") (by decide +kernel)), va_Nw.of rfl (hts0 (.declares ⟨"java/lang/RuntimeException", "<init>", "(Ljava/lang/String;)V"⟩) (by decide +kernel)), va_Nw.of rfl (hts0 (.declares ⟨"java/lang/Exception", "<init>", "(Ljava/lang/String;)V"⟩) (by decide +kernel)), va_Nw.of rfl (hts0 (.declares ⟨"java/lang/Throwable", "<init>", "(Ljava/lang/String;)V"⟩) (by decide +kernel))⟩
  have hE2 : qh_T A s s.heap := ⟨vx_Zqof (hts0 (.laysStatic Bundle.tN "UNASSIGNED_STACK" Bundle.steD) (by decide +kernel)) (hts0 (.initialized Bundle.tN) (by decide +kernel)) (hq (.isRef (.static Bundle.tN "UNASSIGNED_STACK" Bundle.steD)) (by decide +kernel)) hnA, vx_Zqof (hts0 (.laysStatic Bundle.tN "SUPPRESSED_SENTINEL" Bundle.listD) (by decide +kernel)) (hts0 (.initialized Bundle.tN) (by decide +kernel)) (hq (.isRef (.static Bundle.tN "SUPPRESSED_SENTINEL" Bundle.listD)) (by decide +kernel)) hnA⟩
  obtain ⟨sW, hE3⟩ := qh_str (hts0 (.stringRef RX12 318 "nothing is told of that") (by decide +kernel))
  obtain ⟨sC, hE4⟩ := qh_str (hts0 (.stringRef RX12 324 "no such row or column") (by decide +kernel))
  obtain ⟨sT, hE5⟩ := qh_str (hts0 (.stringRef RX12 320 "no such table") (by decide +kernel))
  obtain ⟨sU, hE6⟩ := qh_str (hts0 (.stringRef RX12 322 "the system is down") (by decide +kernel))
  have hE7 : qh_E "java/lang/IllegalStateException" "(Ljava/lang/String;)V" s := ⟨va_Nw.of rfl (hts0 (.castable "java/lang/IllegalStateException" "java/lang/IllegalStateException") (by decide +kernel)), va_Nw.of rfl (hts0 (.declares ⟨"java/lang/RuntimeException", "<init>", "(Ljava/lang/String;)V"⟩) (by decide +kernel)), va_Nw.of rfl (hts0 (.declares ⟨"java/lang/Exception", "<init>", "(Ljava/lang/String;)V"⟩) (by decide +kernel)), va_Nw.of rfl (hts0 (.declares ⟨"java/lang/Throwable", "<init>", "(Ljava/lang/String;)V"⟩) (by decide +kernel))⟩
  obtain ⟨sA, hE8⟩ := qh_str (hts0 (.stringRef RX12 265 "from 1 to 5000 steps are done at once") (by decide +kernel))
  obtain ⟨sB, hE9⟩ := qh_str (hts0 (.stringRef RX12 267 "the system is up") (by decide +kernel))
  have hE10 : qh_E "java/lang/IllegalArgumentException" "(Ljava/lang/String;)V" s := ⟨va_Nw.of rfl (hts0 (.castable "java/lang/IllegalArgumentException" "java/lang/IllegalArgumentException") (by decide +kernel)), va_Nw.of rfl (hts0 (.declares ⟨"java/lang/RuntimeException", "<init>", "(Ljava/lang/String;)V"⟩) (by decide +kernel)), va_Nw.of rfl (hts0 (.declares ⟨"java/lang/Exception", "<init>", "(Ljava/lang/String;)V"⟩) (by decide +kernel)), va_Nw.of rfl (hts0 (.declares ⟨"java/lang/Throwable", "<init>", "(Ljava/lang/String;)V"⟩) (by decide +kernel))⟩
  have hE11 : va_Nc "java/lang/IllegalStateException" "java/lang/IllegalArgumentException" s := va_Nc.of (hts0 (.not (.castable "java/lang/IllegalStateException" "java/lang/IllegalArgumentException")) (by decide +kernel))
  obtain ⟨sR, hE12⟩ := qh_str (hts0 (.stringRef RX12 284 "no such record") (by decide +kernel))
  obtain ⟨sN, hE13⟩ := qh_str (hts0 (.stringRef RX12 89 "from 1 to 8 bytes are put at once") (by decide +kernel))
  have hE14 : va_Nc "java/lang/IllegalArgumentException" "java/lang/IndexOutOfBoundsException" s := va_Nc.of (hts0 (.not (.castable "java/lang/IllegalArgumentException" "java/lang/IndexOutOfBoundsException")) (by decide +kernel))
  obtain ⟨sF, hE15⟩ := qh_str (hts0 (.stringRef RX6 118 "no statement has this token here") (by decide +kernel))
  have hE16 : va_Z "java/util/ArrayList" "DEFAULTCAPACITY_EMPTY_ELEMENTDATA" "[Ljava/lang/Object;" (.ref ed) A s s.heap := va_Zof (hts0 (.laysStatic "java/util/ArrayList" "DEFAULTCAPACITY_EMPTY_ELEMENTDATA" "[Ljava/lang/Object;") (by decide +kernel)) (hts0 (.initialized "java/util/ArrayList") (by decide +kernel)) (hed) hnA
  have hE17 : va_Nw (.methodLinkNest RX21 484 yX20_init "QueryHallModel") s := va_Nw.of rfl (hts0 (.methodLinkNest RX21 484 yX20_init "QueryHallModel") (by decide +kernel))
  have hE18 : qh_Wd qh_LnoSuch s := qh_wd (by decide +kernel) hts0 (by decide +kernel)
  have hE19 : qh_Su RX14 1 s := qh_su hts0 (by decide +kernel) (by decide +kernel) (by decide +kernel)
  have hE20 : va_Nw (.fieldLinkNest RX21 1024 "QueryHallModel$Fault" "kind" "I" "QueryHallModel") s := va_Nw.of rfl (hts0 (.fieldLinkNest RX21 1024 "QueryHallModel$Fault" "kind" "I" "QueryHallModel") (by decide +kernel))
  have hE21 : va_Nw (.fieldLinkNest RX21 1025 "QueryHallModel$Fault" "place" "I" "QueryHallModel") s := va_Nw.of rfl (hts0 (.fieldLinkNest RX21 1025 "QueryHallModel$Fault" "place" "I" "QueryHallModel") (by decide +kernel))
  have hE22 : qh_Wd wsX140 s := qh_wd (by decide +kernel) hts0 (by decide +kernel)
  have hE23 : va_Nw (.castable RX14 RX14) s := va_Nw.of rfl (hts0 (.castable RX14 RX14) (by decide +kernel))
  obtain ⟨sK, hE24⟩ := qh_str (hts0 (.stringRef RX12 256 "a crash keeps no less than no records") (by decide +kernel))
  have hE25 : va_Nw (.methodLinkNest RX10 17 yX1_init "QueryHall") s := va_Nw.of rfl (hts0 (.methodLinkNest RX10 17 yX1_init "QueryHall") (by decide +kernel))
  have hE26 : va_Nw (.methodLinkNest RX12 24 yX2_init "QueryHall") s := va_Nw.of rfl (hts0 (.methodLinkNest RX12 24 yX2_init "QueryHall") (by decide +kernel))
  have hE27 : va_Nw (.methodLinkNest RX12 31 yX8_init "QueryHall") s := va_Nw.of rfl (hts0 (.methodLinkNest RX12 31 yX8_init "QueryHall") (by decide +kernel))
  have hE28 : va_Nw (.methodLinkNest RX12 38 yX4_init "QueryHall") s := va_Nw.of rfl (hts0 (.methodLinkNest RX12 38 yX4_init "QueryHall") (by decide +kernel))
  have hE29 : va_Nw (.methodLinkNest RX12 60 yX10_init "QueryHall") s := va_Nw.of rfl (hts0 (.methodLinkNest RX12 60 yX10_init "QueryHall") (by decide +kernel))
  have hE30 : va_AOA .long s := va_AOA.of (hts0 (.arrayOver (.array .long)) (by decide +kernel))
  have hE31 : va_AOA .int s := va_AOA.of (hts0 (.arrayOver (.array .int)) (by decide +kernel))
  have hE32 : va_AO RX7 s := va_AO.of (hts0 (.arrayOver (.object RX7)) (by decide +kernel))
  have hE33 : va_AO RX10 s := va_AO.of (hts0 (.arrayOver (.object RX10)) (by decide +kernel))
  have hE34 : va_AO RX11 s := va_AO.of (hts0 (.arrayOver (.object RX11)) (by decide +kernel))
  have hE35 : vk_R RX6 25 "create table index on insert into values update set where delete from begin commit rollback number truth text not null select distinct left join group by having order desc or and is in true false count sum min max exists " (aK1 0) s := vk_R.of (A := #[Value.ref b]) (hts0 (.stringRef RX6 25 "create table index on insert into values update set where delete from begin commit rollback number truth text not null select distinct left join group by having order desc or and is in true false count sum min max exists ") (by decide +kernel)) (hN1 0 (by decide))
  have hE36 : va_Z "java/lang/String" "COMPACT_STRINGS" "Z" (.int 1) A s s.heap := va_Zof (hts0 (.laysStatic "java/lang/String" "COMPACT_STRINGS" "Z") (by decide +kernel)) (hts0 (.initialized "java/lang/String") (by decide +kernel)) (va_eqt (hq (.eq (.static "java/lang/String" "COMPACT_STRINGS" "Z") (.int 1)) (by decide +kernel))) hnA
  have hE37 : va_OF "java/lang/String" "coder" "B" (.int 0) (aK1 0) A s s.heap := (hT1.1 0 (by decide)).2.1
  have hE38 : va_OF "java/lang/String" "value" "[B" (.ref (aV1 0)) (aK1 0) A s s.heap := (hT1.1 0 (by decide)).2.2.1
  have hE39 : va_O "java/lang/String" (aK1 0) A s s.heap := (hT1.1 0 (by decide)).1
  have hE40 : va_T .byte (aV1 0) 221 (fun j => .int ((fun j => qh_by1.getD j 0) j)) A s s.heap := (hT1.1 0 (by decide)).2.2.2
  have hE41 : va_Zq "jdk/internal/util/Preconditions" "SIOOBE_FORMATTER" "Ljava/util/function/BiFunction;" A s s.heap := va_Zqof (hts0 (.laysStatic "jdk/internal/util/Preconditions" "SIOOBE_FORMATTER" "Ljava/util/function/BiFunction;") (by decide +kernel)) (hts0 (.initialized "jdk/internal/util/Preconditions") (by decide +kernel)) (hq (.isRef (.static "jdk/internal/util/Preconditions" "SIOOBE_FORMATTER" "Ljava/util/function/BiFunction;")) (by decide +kernel)) hnA
  have hE42 : va_AO RX20 s := va_AO.of (hts0 (.arrayOver (.object RX20)) (by decide +kernel))
  have hE43 : va_AO RX16 s := va_AO.of (hts0 (.arrayOver (.object RX16)) (by decide +kernel))
  have hE44 : vk_R RX21 240 "create table index on insert into values update set where delete from begin commit rollback number truth text not null select distinct left join group by having order desc or and is in true false count exists sum min max " (aK2 0) s := vk_R.of (A := #[Value.ref b]) (hts0 (.stringRef RX21 240 "create table index on insert into values update set where delete from begin commit rollback number truth text not null select distinct left join group by having order desc or and is in true false count exists sum min max ") (by decide +kernel)) (hN2 0 (by decide))
  have hE45 : va_OF "java/lang/String" "coder" "B" (.int 0) (aK2 0) A s s.heap := (hT2.1 0 (by decide)).2.1
  have hE46 : va_OF "java/lang/String" "value" "[B" (.ref (aV2 0)) (aK2 0) A s s.heap := (hT2.1 0 (by decide)).2.2.1
  have hE47 : va_O "java/lang/String" (aK2 0) A s s.heap := (hT2.1 0 (by decide)).1
  have hE48 : va_T .byte (aV2 0) 221 (fun j => .int ((fun j => qh_by2.getD j 0) j)) A s s.heap := (hT2.1 0 (by decide)).2.2.2
  have hl := lv_entry ([.ref b]) (n := 8) (Nat.le_of_ble_eq_true rfl)
  rw [show (entryFrame m ([Value.ref b] : List Value).toArray 8) = _ from lg_entry_eq ..]
  generalize (lg_sl ([.ref b]) ++ List.replicate (8 - (lg_sl ([.ref b])).length) Slot.unset).toArray = ls at hl ⊢
  have hl : lv_has ls 8 [(0, .ref b)] := hl
  exact c_law_all hl9 (fun c => (fC c).1) (fun c => (fC c).2) cI cJ cB cZ cJJ cII cPl cSs cTb cSt cLk sS sW sU sN sC sT sR sK sA sB sF ed (aK1 0) (aV1 0) 221 (aK2 0) (aV2 0) 221 (fun j => qh_by1.getD j 0) (fun j => qh_by2.getD j 0) (by decide) (fun k hk => Nat.lt_of_le_of_lt (qh_kw_le _ (show k ≤ 220 by omega)) qh_kwF) (by decide) (fun k hk => Nat.lt_of_le_of_lt (qh_km_le _ (show k ≤ 220 by omega)) qh_kmF) b L xs hL hx hb hr hlocks hml hts htx hown hK hA hAi hE0 hE1 hE2 hE3 hE4 hE5 hE6 hE7 hE8 hE9 hE10 hE11 hE12 hE13 hE14 hE15 hE16 hE17 hE18 hE19 hE20 hE21 hE22 hE23 hE24 hE25 hE26 hE27 hE28 hE29 hE30 hE31 hE32 hE33 hE34 hE35 hE36 hE37 hE38 hE39 hE40 hE41 hE42 hE43 hE44 hE45 hE46 hE47 hE48 hX hbl (hnA b hbl) hl
set_option maxHeartbeats 4000000 in
theorem lw_walk (l : Launch) (hl9 : l.stackTraces = false) (b : Addr) (xs : List Int32) : MetFree l x (headSpec (Jvm.Cond.code x code maxLocals ret :: tables_1) room_1) (lw_P b xs) (fun _ _ _ _ _ => True) lw_Q := by
  refine MetFree.of_bodyS (code := code) (maxLocals := maxLocals) (ret := ret) (by decide) ?_ ?_
  · intro args s m h hn
    obtain ⟨meth, c, h1, h2, h3, h4, h5, h6, -, -⟩ := Cond.code_spec hn (atoms_spec (ws := Jvm.Cond.code x code maxLocals ret :: tables_1) h _ List.mem_cons_self)
    exact ⟨meth, c, h1, h2, h3, h4, h5, h6⟩
  · intro p e s m args below meth c s₁ B hml0 hP _
    obtain ⟨rfl, hx, hbd, hgv⟩ := hP
    obtain ⟨scr, harrAt, hlist, hof, hsmall⟩ := hx
    obtain ⟨hcb, hkn, -, -⟩ := State.arrayAt?_spec harrAt
    have hown : s.vm.findClass R_law = some m.cls := findClass_of_methodNamed B.named
    have hts0 : ∀ c ∈ (Jvm.Cond.code x code maxLocals ret :: tables_1), c.before #[Value.ref b] s = true := atoms_spec (ws := Jvm.Cond.code x code maxLocals ret :: tables_1) B.pre
    have hts : ∀ w ∈ lw_tbl, w.before #[Value.ref b] s = true := k2_hts_sels lw_privs (fun w hw => hts0 w (List.mem_cons_of_mem _ hw)) lw_privs_ok
    have hml : c.maxLocals = 8 := B.maxLocals_eq (hts0 _ List.mem_cons_self)
    have X₀ : Stand p l e room_1 s m #[Value.ref b] below meth c s₁ [] 0 0 := Stand.of_body B
    have hh0 : s₁.heap = s.heap := by rw [B.state]; rfl
    have hsz : scr.slots.size = xs.length := by rw [← Array.length_toList, hlist, List.length_map]
    have hval : ∀ j : Nat, j < xs.length → scr.slots[j]? = some (.int (xs.getD j 0)) := fun j hj => by
      rw [← Array.getElem?_toList, hlist]
      simp [hj]
    have hbl : b < s.heap.size := (Array.getElem?_eq_some_iff.mp hcb).1
    have hX : va_X b xs.length (fun j => xs.getD j 0) s s.heap := ⟨scr, hcb, hof, hkn, hsz, hval⟩
    have K : W p l e room_1 s m #[Value.ref b] below meth c s₁.heap [] 0 0 (lw_Z below #[Value.ref b] s) (entryFrame m ([Value.ref b] : List Value).toArray 8) := by
      rw [hh0]
      exact whole_start l hl9 hbd ⟨B.exec, B.bytes, B.returns, hml, hown, hts, hX, hbl, B.notSynchronized, hgv⟩
    obtain ⟨t, a1, o, b1, b2, b3⟩ := K s₁ rfl X₀
    exact ⟨t, o, a1, b1, b2, b3⟩
theorem lw_pre_spec {args : Array Value} {s : State} (h : (Jvm.Cond.and given_1 narrow_1).before args s = true) (hr : rest_1_c.before args s = true) : ∃ (b : Addr) (xs : List Int32), lw_P b xs args s := by
  have hs := flat_of_before _ h
  have hq := flat_of_before _ hr
  have hc : (Cond.count 1).before args s = true := hs _ (by decide +kernel)
  have harr : (Cond.arrayOf (.arg 0) .int).before args s = true := hs _ (by decide +kernel)
  have hle : (Cond.le (.length (.arg 0)) (.int 5)).before args s = true := hs _ (by decide +kernel)
  have hlen : (Cond.isInt (.length (.arg 0))).before args s = true := hq _ (by decide +kernel)
  have hall : (Cond.all (.arg 0) (.isInt (.elem (.arg 0) (.index 0)))).before args s = true := hq _ (by decide +kernel)
  obtain ⟨b, xs, hb, hx⟩ := State.ints_of_pre rfl harr hlen hall
  have hsm : xs.length < 2 ^ 31 := hx.choose_spec.2.2.2
  have hev : (Term.length (.arg 0)).eval args s none [] s = some (.int xs.length.toInt32) := hx.length_eval hb
  have hv := Cond.le_ints hev (show (Term.int 5).eval args s none [] s = some (.int 5) from rfl)
  have hd : xs.length.toInt32 ≤ 5 := by
    simpa [Cond.before, Cond.holds, hv] using hle
  have hN : xs.length ≤ 5 := (Int32.ofNat_le_ofNat hsm (by decide)).mp (show Int32.ofNat xs.length ≤ Int32.ofNat 5 from hd)
  exact ⟨b, xs, Cond.one_arg hc (show args[0]? = some (.ref b) from hb), hx, hN, h⟩
theorem lw_comes (l : Launch) (hl9 : l.stackTraces = false) : Comes l x (Jvm.Cond.code x code maxLocals ret :: tables_1) room_1 (fun tb e args s => Calls_1 tb e args s ∧ rest_1 tb e args s ∧ Pre_1 tb e args s)
    (fun _ _ args s o t => lw_Q args s o t) := by
  intro p e ha hc hk s m args below hf hfit hheap happ hpre
  obtain ⟨b, xs, hP⟩ := lw_pre_spec hpre.2.2 hpre.2.1
  obtain ⟨k, o, h1, h2, h3, hQ⟩ := lw_walk l hl9 b xs p e ha hc hk s m args below hf ((Spec.applies_iff_loose hf).mp happ).1 hP trivial
  exact ⟨k, o, h1, h2, h3, hQ⟩
theorem lw_frame {s t : State} {o : Outcome} {args : Array Value} (h : Framed s o t [] 600002 7302232) :
    Framed s o t (fieldLocs frame_1_writes args s ++ arrayLocs frame_1_arrays args s ++ staticLocs frame_1_statics s) 600002 7302232 := h
theorem lw_limb (L : Cond) (hL : ∀ (args : Array Value) (s t : State), L.after args s (.returned (some (.int 1))) t = true) :
    ArmFor flags0 classFile x code maxLocals ret World_1 tables_1 room_1 Calls_1 rest_1 Pre_1
      (fun tb e a s o t => postC L tb e a s o t ∧ Framed s o t (fieldLocs frame_1_writes a s ++ arrayLocs frame_1_arrays a s ++ staticLocs frame_1_statics s) 600002 7302232) := by
  intro l hfl _ _ p e ha hc hk s m args below hf hfit hheap happ hpre
  obtain ⟨k, o, h1, h2, h3, rfl, hF⟩ := lw_comes l (by unfold Launch.stackTraces; rw [hfl]; decide +kernel) p e ha hc hk s m args below hf hfit hheap happ hpre
  exact ⟨k, _, h1, h2, h3, hL args s _, lw_frame hF⟩
theorem i_vc : Claimed_1_1 ∧ Claimed_1_2 := ⟨lw_limb limb_1_1 (fun args s t => by simp [limb_1_1, Cond.after, Cond.holds, Cond.value]), lw_limb limb_1_2 (fun args s t => Cond.after_iff.mpr (by
  first | (rw [show limb_1_2 = Cond.eq .result (.int 1) from rfl, Cond.eq_ints (x := 1) (y := 1) rfl rfl]; simp; done) | (simp [limb_1_2, Cond.value, Term.eval]; done)))⟩
