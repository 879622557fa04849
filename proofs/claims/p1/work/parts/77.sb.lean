
set_option maxHeartbeats 40000000 in
set_option maxRecDepth 100000 in
theorem whole_start {p : Program} {e : Env} {s : State} {m : MethodId} {below : List Frame} {meth : Method} {c : Code} (l : Launch) (hl9 : l.stackTraces = false) {b L : Nat} {xs : Nat → Int32} (hL : L ≤ 5) (C0 : lw_At p s m meth c b L xs) : W p l e room_1 s m #[Value.ref b] below meth c s.heap [] 0 0 (lw_Z below #[Value.ref b] s) (entryFrame m ([Value.ref b] : List Value).toArray 8) := by
  obtain ⟨hx, hb, hr, hml, hown, hts0, hX, hbl, hlocks, hgv⟩ := C0
  have hts : ∀ w ∈ wsL_law, w.before #[Value.ref b] s = true := fun w h => hts0 w (wsL_law_in w h)
  have htx : ∀ w ∈ qh_LW, w.before #[Value.ref b] s = true := fun w h => (List.mem_append.mp h).elim (hts w) (fun h => hts0 w ((by decide +kernel : ∀ w ∈ ([.classLink RL 15 "java/lang/IllegalArgumentException", .classLink RL 21 "java/lang/IllegalStateException"] : List Cond), w ∈ lw_tbl) w h))
  have hq := flat_of_before _ hgv
  obtain ⟨A, hAd⟩ : ∃ A : Nat → Prop, A = fun q => s.heap.size ≤ q := ⟨_, rfl⟩
  have hA : ∀ q : Nat, s.heap.size ≤ q → A q := fun q h => by rw [hAd]; exact h
  have hAi : ∀ q : Nat, A q → s.heap.size ≤ q := fun q h => by rw [hAd] at h; exact h
  have hnA : ∀ a : Nat, a < s.heap.size → ¬ A a := fun a h z => Nat.not_le.mpr h (hAi a z)
  have hex : ∀ c : Nat, ∃ x : ClassId × (Nat → Nat), ∀ q, vwCl[c]? = some q → u_Kn s q.1 q.2.1 q.2.2 x.1 x.2 := by
    intro c
    cases hc : vwCl[c]? with
    | none => exact ⟨(0, fun _ => 0), fun q h => by cases h⟩
    | some q =>
      obtain ⟨cC, iS, h⟩ := u_known hts0 (qh_clin q (List.mem_of_getElem? hc)) (hts0 _ (qh_clins q (List.mem_of_getElem? hc)))
      exact ⟨(cC, iS), fun q2 h2 => by cases h2; exact h⟩
  obtain ⟨fC, hfC⟩ := Classical.axiomOfChoice hex
  obtain ⟨cI, hcI⟩ := qh_tyP (hts0 (.arrayClass .int) (qin_1 _ (List.mem_of_getElem? (i := 153) rfl)))
  obtain ⟨cJ, hcJ⟩ := qh_tyP (hts0 (.arrayClass .long) (qin_1 _ (List.mem_of_getElem? (i := 152) rfl)))
  obtain ⟨cB, hcB⟩ := qh_tyP (hts0 (.arrayClass .byte) (qin_1 _ (List.mem_of_getElem? (i := 154) rfl)))
  obtain ⟨cZ, hcZ⟩ := qh_tyP (hts0 (.arrayClass .boolean) (qin_1 _ (List.mem_of_getElem? (i := 229) rfl)))
  obtain ⟨cJJ, hcJJ⟩ := qh_tyA (hts0 (.arrayOver (.array .long)) (qin_1 _ (List.mem_of_getElem? (i := 162) rfl)))
  obtain ⟨cII, hcII⟩ := qh_tyA (hts0 (.arrayOver (.array .int)) (qin_1 _ (List.mem_of_getElem? (i := 164) rfl)))
  obtain ⟨cPl, hcPl⟩ := qh_tyO (hts0 (.arrayOver (.object RX7)) (qin_2 _ (List.mem_of_getElem? (i := 66) rfl)))
  obtain ⟨cSs, hcSs⟩ := qh_tyO (hts0 (.arrayOver (.object RX10)) (qin_1 _ (List.mem_of_getElem? (i := 58) rfl)))
  obtain ⟨cTb, hcTb⟩ := qh_tyO (hts0 (.arrayOver (.object RX11)) (qin_3 _ (List.mem_of_getElem? (i := 82) rfl)))
  obtain ⟨cSt, hcSt⟩ := qh_tyO (hts0 (.arrayOver (.object RX20)) (qin_11 _ (List.mem_of_getElem? (i := 145) rfl)))
  obtain ⟨cLk, hcLk⟩ := qh_tyO (hts0 (.arrayOver (.object RX16)) (qin_11 _ (List.mem_of_getElem? (i := 147) rfl)))
  have hK : va_K ((fun c => (fC c).1), (fun c => (fC c).2)) vwCl [(cI, .int), (cJ, .long), (cB, .byte), (cZ, .boolean), (cJJ, .array .long), (cII, .array .int), (cPl, .object RX7), (cSs, .object RX10), (cTb, .object RX11), (cSt, .object RX20), (cLk, .object RX16)] s := by
    refine ⟨fun c q h => hfC c q h, fun k q hk => ?_⟩
    rcases (show k = 0 ∨ k = 1 ∨ k = 2 ∨ k = 3 ∨ k = 4 ∨ k = 5 ∨ k = 6 ∨ k = 7 ∨ k = 8 ∨ k = 9 ∨ k = 10 ∨ 11 ≤ k by omega) with rfl | rfl | rfl | rfl | rfl | rfl | rfl | rfl | rfl | rfl | rfl | h9
    · cases hk; exact hcI
    · cases hk; exact hcJ
    · cases hk; exact hcB
    · cases hk; exact hcZ
    · cases hk; exact hcJJ
    · cases hk; exact hcII
    · cases hk; exact hcPl
    · cases hk; exact hcSs
    · cases hk; exact hcTb
    · cases hk; exact hcSt
    · cases hk; exact hcLk
    · rw [List.getElem?_eq_none h9] at hk; cases hk
  obtain ⟨aK1, aV1, hT1, hN1⟩ := vk_Sof (args := #[Value.ref b]) (s := s) (N := 1) (tm := fun _ => .string "QueryHall$Parser" 25) (len := [221]) (byt := [qh_by1]) (A := A) (fun i hi => by rw [show i = 0 by omega]; decide) (fun i hi => hq _ (by decide +kernel)) (fun i hi => hq _ (by decide +kernel)) (fun i hi => hq _ (by decide +kernel)) (fun i hi => by rw [show i = 0 by omega]; exact hq _ (by decide +kernel)) (fun i hi j hj => by rw [show i = 0 by omega] at hj ⊢; exact hq _ (qh_hel0 j hj)) (fun i j hi hj h => absurd (show i = j by omega) h) hnA
  obtain ⟨aK2, aV2, hT2, hN2⟩ := vk_Sof (args := #[Value.ref b]) (s := s) (N := 1) (tm := fun _ => .string "QueryHallModel" 240) (len := [221]) (byt := [qh_by2]) (A := A) (fun i hi => by rw [show i = 0 by omega]; decide) (fun i hi => hq _ (by decide +kernel)) (fun i hi => hq _ (by decide +kernel)) (fun i hi => hq _ (by decide +kernel)) (fun i hi => by rw [show i = 0 by omega]; exact hq _ (by decide +kernel)) (fun i hi j hj => by rw [show i = 0 by omega] at hj ⊢; exact hq _ (qh_hel1 j hj)) (fun i j hi hj h => absurd (show i = j by omega) h) hnA
  obtain ⟨ed, _, _, _, hed, _⟩ := Cond.exactly_spec (args := #[Value.ref b]) (first := s) (o := none) (s := s) (idx := []) (t := .static "java/util/ArrayList" "DEFAULTCAPACITY_EMPTY_ELEMENTDATA" "[Ljava/lang/Object;") (cls := "[Ljava/lang/Object;") (hq _ (by decide +kernel))
  obtain ⟨sS, hE0⟩ := qh_str (hts0 (.stringRef RX12 316 "no such session") (qin_4 _ (List.mem_of_getElem? (i := 70) rfl)))
  have hE1 : qh_E "java/lang/IndexOutOfBoundsException" "(Ljava/lang/String;)V" s := ⟨va_Nw.of rfl (hts0 (.castable "java/lang/IndexOutOfBoundsException" "java/lang/IndexOutOfBoundsException") (qin_4 _ (List.mem_of_getElem? (i := 29) rfl))), va_Nw.of rfl (hts0 (.declares ⟨"java/lang/RuntimeException", "<init>", "(Ljava/lang/String;)V"⟩) (qin_4 _ (List.mem_of_getElem? (i := 31) rfl))), va_Nw.of rfl (hts0 (.declares ⟨"java/lang/Exception", "<init>", "(Ljava/lang/String;)V"⟩) (qin_4 _ (List.mem_of_getElem? (i := 33) rfl))), va_Nw.of rfl (hts0 (.declares ⟨"java/lang/Throwable", "<init>", "(Ljava/lang/String;)V"⟩) (qin_4 _ (List.mem_of_getElem? (i := 35) rfl)))⟩
  have hE2 : qh_T A s s.heap := ⟨vx_Zqof (hts0 (.laysStatic Bundle.tN "UNASSIGNED_STACK" Bundle.steD) (qin_4 _ (List.mem_of_getElem? (i := 54) rfl))) (hts0 (.initialized Bundle.tN) (qin_1 _ (List.mem_of_getElem? (i := 18) rfl))) (hq (.isRef (.static Bundle.tN "UNASSIGNED_STACK" Bundle.steD)) (by decide +kernel)) hnA, vx_Zqof (hts0 (.laysStatic Bundle.tN "SUPPRESSED_SENTINEL" Bundle.listD) (qin_4 _ (List.mem_of_getElem? (i := 56) rfl))) (hts0 (.initialized Bundle.tN) (qin_1 _ (List.mem_of_getElem? (i := 18) rfl))) (hq (.isRef (.static Bundle.tN "SUPPRESSED_SENTINEL" Bundle.listD)) (by decide +kernel)) hnA⟩
  obtain ⟨sW, hE3⟩ := qh_str (hts0 (.stringRef RX12 318 "nothing is told of that") (qin_10 _ (List.mem_of_getElem? (i := 195) rfl)))
  obtain ⟨sC, hE4⟩ := qh_str (hts0 (.stringRef RX12 324 "no such row or column") (qin_10 _ (List.mem_of_getElem? (i := 225) rfl)))
  obtain ⟨sT, hE5⟩ := qh_str (hts0 (.stringRef RX12 320 "no such table") (qin_11 _ (List.mem_of_getElem? (i := 28) rfl)))
  obtain ⟨sU, hE6⟩ := qh_str (hts0 (.stringRef RX12 322 "the system is down") (qin_4 _ (List.mem_of_getElem? (i := 133) rfl)))
  have hE7 : qh_E "java/lang/IllegalStateException" "(Ljava/lang/String;)V" s := ⟨va_Nw.of rfl (hts0 (.castable "java/lang/IllegalStateException" "java/lang/IllegalStateException") (qin_4 _ (List.mem_of_getElem? (i := 126) rfl))), va_Nw.of rfl (hts0 (.declares ⟨"java/lang/RuntimeException", "<init>", "(Ljava/lang/String;)V"⟩) (qin_4 _ (List.mem_of_getElem? (i := 31) rfl))), va_Nw.of rfl (hts0 (.declares ⟨"java/lang/Exception", "<init>", "(Ljava/lang/String;)V"⟩) (qin_4 _ (List.mem_of_getElem? (i := 33) rfl))), va_Nw.of rfl (hts0 (.declares ⟨"java/lang/Throwable", "<init>", "(Ljava/lang/String;)V"⟩) (qin_4 _ (List.mem_of_getElem? (i := 35) rfl)))⟩
  obtain ⟨sA, hE8⟩ := qh_str (hts0 (.stringRef RX12 265 "from 1 to 5000 steps are done at once") (qin_11 _ (List.mem_of_getElem? (i := 91) rfl)))
  obtain ⟨sB, hE9⟩ := qh_str (hts0 (.stringRef RX12 267 "the system is up") (qin_11 _ (List.mem_of_getElem? (i := 92) rfl)))
  have hE10 : qh_E "java/lang/IllegalArgumentException" "(Ljava/lang/String;)V" s := ⟨va_Nw.of rfl (hts0 (.castable "java/lang/IllegalArgumentException" "java/lang/IllegalArgumentException") (qin_4 _ (List.mem_of_getElem? (i := 98) rfl))), va_Nw.of rfl (hts0 (.declares ⟨"java/lang/RuntimeException", "<init>", "(Ljava/lang/String;)V"⟩) (qin_4 _ (List.mem_of_getElem? (i := 31) rfl))), va_Nw.of rfl (hts0 (.declares ⟨"java/lang/Exception", "<init>", "(Ljava/lang/String;)V"⟩) (qin_4 _ (List.mem_of_getElem? (i := 33) rfl))), va_Nw.of rfl (hts0 (.declares ⟨"java/lang/Throwable", "<init>", "(Ljava/lang/String;)V"⟩) (qin_4 _ (List.mem_of_getElem? (i := 35) rfl)))⟩
  have hE11 : va_Nc "java/lang/IllegalStateException" "java/lang/IllegalArgumentException" s := va_Nc.of (hq (.not (.castable "java/lang/IllegalStateException" "java/lang/IllegalArgumentException")) (by decide +kernel))
  obtain ⟨sR, hE12⟩ := qh_str (hts0 (.stringRef RX12 284 "no such record") (qin_11 _ (List.mem_of_getElem? (i := 128) rfl)))
  obtain ⟨sN, hE13⟩ := qh_str (hts0 (.stringRef RX12 89 "from 1 to 8 bytes are put at once") (qin_4 _ (List.mem_of_getElem? (i := 105) rfl)))
  have hE14 : va_Nc "java/lang/IllegalArgumentException" "java/lang/IndexOutOfBoundsException" s := va_Nc.of (hq (.not (.castable "java/lang/IllegalArgumentException" "java/lang/IndexOutOfBoundsException")) (by decide +kernel))
  obtain ⟨sF, hE15⟩ := qh_str (hts0 (.stringRef RX6 118 "no statement has this token here") (qin_5 _ (List.mem_of_getElem? (i := 22) rfl)))
  have hE16 : va_Z "java/util/ArrayList" "DEFAULTCAPACITY_EMPTY_ELEMENTDATA" "[Ljava/lang/Object;" (.ref ed) A s s.heap := va_Zof (hts0 (.laysStatic "java/util/ArrayList" "DEFAULTCAPACITY_EMPTY_ELEMENTDATA" "[Ljava/lang/Object;") (qin_2 _ (List.mem_of_getElem? (i := 52) rfl))) (hts0 (.initialized "java/util/ArrayList") (qin_1 _ (List.mem_of_getElem? (i := 12) rfl))) (hed) hnA
  have hE17 : va_Nw (.methodLinkNest RX21 484 yX20_init "QueryHallModel") s := va_Nw.of rfl (hts0 (.methodLinkNest RX21 484 yX20_init "QueryHallModel") (qin_13 _ (List.mem_of_getElem? (i := 44) rfl)))
  have hE18 : qh_Wd qh_LnoSuch s := qh_wd (by decide +kernel) hts0 qh_LnoSuch_in
  have hE19 : qh_Su RX14 1 s := qh_su hts0 (by decide +kernel) (by decide +kernel) (by decide +kernel)
  have hE20 : va_Nw (.fieldLinkNest RX21 1024 "QueryHallModel$Fault" "kind" "I" "QueryHallModel") s := va_Nw.of rfl (hts0 (.fieldLinkNest RX21 1024 "QueryHallModel$Fault" "kind" "I" "QueryHallModel") (qin_13 _ (List.mem_of_getElem? (i := 20) rfl)))
  have hE21 : va_Nw (.fieldLinkNest RX21 1025 "QueryHallModel$Fault" "place" "I" "QueryHallModel") s := va_Nw.of rfl (hts0 (.fieldLinkNest RX21 1025 "QueryHallModel$Fault" "place" "I" "QueryHallModel") (qin_13 _ (List.mem_of_getElem? (i := 22) rfl)))
  have hE22 : qh_Wd wsX140 s := qh_wd (by decide +kernel) hts0 (by decide +kernel)
  have hE23 : va_Nw (.castable RX14 RX14) s := va_Nw.of rfl (hts0 (.castable RX14 RX14) (qin_13 _ (List.mem_of_getElem? (i := 2) rfl)))
  obtain ⟨sK, hE24⟩ := qh_str (hts0 (.stringRef RX12 256 "a crash keeps no less than no records") (qin_11 _ (List.mem_of_getElem? (i := 65) rfl)))
  have hE25 : va_Nw (.methodLinkNest RX10 17 yX1_init "QueryHall") s := va_Nw.of rfl (hts0 (.methodLinkNest RX10 17 yX1_init "QueryHall") (qin_2 _ (List.mem_of_getElem? (i := 112) rfl)))
  have hE26 : va_Nw (.methodLinkNest RX12 24 yX2_init "QueryHall") s := va_Nw.of rfl (hts0 (.methodLinkNest RX12 24 yX2_init "QueryHall") (qin_1 _ (List.mem_of_getElem? (i := 157) rfl)))
  have hE27 : va_Nw (.methodLinkNest RX12 31 yX8_init "QueryHall") s := va_Nw.of rfl (hts0 (.methodLinkNest RX12 31 yX8_init "QueryHall") (qin_1 _ (List.mem_of_getElem? (i := 232) rfl)))
  have hE28 : va_Nw (.methodLinkNest RX12 38 yX4_init "QueryHall") s := va_Nw.of rfl (hts0 (.methodLinkNest RX12 38 yX4_init "QueryHall") (qin_2 _ (List.mem_of_getElem? (i := 35) rfl)))
  have hE29 : va_Nw (.methodLinkNest RX12 60 yX10_init "QueryHall") s := va_Nw.of rfl (hts0 (.methodLinkNest RX12 60 yX10_init "QueryHall") (qin_2 _ (List.mem_of_getElem? (i := 106) rfl)))
  have hE30 : va_AOA .long s := va_AOA.of (hts0 (.arrayOver (.array .long)) (qin_1 _ (List.mem_of_getElem? (i := 162) rfl)))
  have hE31 : va_AOA .int s := va_AOA.of (hts0 (.arrayOver (.array .int)) (qin_1 _ (List.mem_of_getElem? (i := 164) rfl)))
  have hE32 : va_AO RX7 s := va_AO.of (hts0 (.arrayOver (.object RX7)) (qin_2 _ (List.mem_of_getElem? (i := 66) rfl)))
  have hE33 : va_AO RX10 s := va_AO.of (hts0 (.arrayOver (.object RX10)) (qin_1 _ (List.mem_of_getElem? (i := 58) rfl)))
  have hE34 : va_AO RX11 s := va_AO.of (hts0 (.arrayOver (.object RX11)) (qin_3 _ (List.mem_of_getElem? (i := 82) rfl)))
  have hE35 : vk_R RX6 25 "create table index on insert into values update set where delete from begin commit rollback number truth text not null select distinct left join group by having order desc or and is in true false count sum min max exists " (aK1 0) s := vk_R.of (A := #[Value.ref b]) (hts0 (.stringRef RX6 25 "create table index on insert into values update set where delete from begin commit rollback number truth text not null select distinct left join group by having order desc or and is in true false count sum min max exists ") (qin_1 _ (List.mem_of_getElem? (i := 65) rfl))) (hN1 0 (by decide))
  have hE36 : va_Z "java/lang/String" "COMPACT_STRINGS" "Z" (.int 1) A s s.heap := va_Zof (hts0 (.laysStatic "java/lang/String" "COMPACT_STRINGS" "Z") (qin_1 _ (List.mem_of_getElem? (i := 75) rfl))) (hts0 (.initialized "java/lang/String") (qin_1 _ (List.mem_of_getElem? (i := 3) rfl))) (va_eqt (hq (.eq (.static "java/lang/String" "COMPACT_STRINGS" "Z") (.int 1)) (by decide +kernel))) hnA
  have hE37 : va_OF "java/lang/String" "coder" "B" (.int 0) (aK1 0) A s s.heap := (hT1.1 0 (by decide)).2.1
  have hE38 : va_OF "java/lang/String" "value" "[B" (.ref (aV1 0)) (aK1 0) A s s.heap := (hT1.1 0 (by decide)).2.2.1
  have hE39 : va_O "java/lang/String" (aK1 0) A s s.heap := (hT1.1 0 (by decide)).1
  have hE40 : va_T .byte (aV1 0) 221 (fun j => .int ((fun j => qh_by1.getD j 0) j)) A s s.heap := (hT1.1 0 (by decide)).2.2.2
  have hE41 : va_Zq "jdk/internal/util/Preconditions" "SIOOBE_FORMATTER" "Ljava/util/function/BiFunction;" A s s.heap := va_Zqof (hts0 (.laysStatic "jdk/internal/util/Preconditions" "SIOOBE_FORMATTER" "Ljava/util/function/BiFunction;") (qin_1 _ (List.mem_of_getElem? (i := 91) rfl))) (hts0 (.initialized "jdk/internal/util/Preconditions") (qin_1 _ (List.mem_of_getElem? (i := 5) rfl))) (hq (.isRef (.static "jdk/internal/util/Preconditions" "SIOOBE_FORMATTER" "Ljava/util/function/BiFunction;")) (by decide +kernel)) hnA
  have hE42 : va_AO RX20 s := va_AO.of (hts0 (.arrayOver (.object RX20)) (qin_11 _ (List.mem_of_getElem? (i := 145) rfl)))
  have hE43 : va_AO RX16 s := va_AO.of (hts0 (.arrayOver (.object RX16)) (qin_11 _ (List.mem_of_getElem? (i := 147) rfl)))
  have hE44 : vk_R RX21 240 "create table index on insert into values update set where delete from begin commit rollback number truth text not null select distinct left join group by having order desc or and is in true false count exists sum min max " (aK2 0) s := vk_R.of (A := #[Value.ref b]) (hts0 (.stringRef RX21 240 "create table index on insert into values update set where delete from begin commit rollback number truth text not null select distinct left join group by having order desc or and is in true false count exists sum min max ") (qin_11 _ (List.mem_of_getElem? (i := 151) rfl))) (hN2 0 (by decide))
  have hE45 : va_OF "java/lang/String" "coder" "B" (.int 0) (aK2 0) A s s.heap := (hT2.1 0 (by decide)).2.1
  have hE46 : va_OF "java/lang/String" "value" "[B" (.ref (aV2 0)) (aK2 0) A s s.heap := (hT2.1 0 (by decide)).2.2.1
  have hE47 : va_O "java/lang/String" (aK2 0) A s s.heap := (hT2.1 0 (by decide)).1
  have hE48 : va_T .byte (aV2 0) 221 (fun j => .int ((fun j => qh_by2.getD j 0) j)) A s s.heap := (hT2.1 0 (by decide)).2.2.2
  have hl := lv_entry ([.ref b]) (n := 8) (Nat.le_of_ble_eq_true rfl)
  rw [show (entryFrame m ([Value.ref b] : List Value).toArray 8) = _ from lg_entry_eq ..]
  generalize (lg_sl ([.ref b]) ++ List.replicate (8 - (lg_sl ([.ref b])).length) Slot.unset).toArray = ls at hl ⊢
  have hl : lv_has ls 8 [(0, .ref b)] := hl
  exact c_law_all hl9 (fun c => (fC c).1) (fun c => (fC c).2) cI cJ cB cZ cJJ cII cPl cSs cTb cSt cLk sS sW sU sN sC sT sR sK sA sB sF ed (aK1 0) (aV1 0) 221 (aK2 0) (aV2 0) 221 (fun j => qh_by1.getD j 0) (fun j => qh_by2.getD j 0) (by decide) (fun k hk => Nat.lt_of_le_of_lt (qh_kw_le _ (show k ≤ 220 by omega)) qh_kwF) (by decide) (fun k hk => Nat.lt_of_le_of_lt (qh_km_le _ (show k ≤ 220 by omega)) qh_kmF) b L xs hL hx hb hr hlocks hml hts htx hown hK hA hAi hE0 hE1 hE2 hE3 hE4 hE5 hE6 hE7 hE8 hE9 hE10 hE11 hE12 hE13 hE14 hE15 hE16 hE17 hE18 hE19 hE20 hE21 hE22 hE23 hE24 hE25 hE26 hE27 hE28 hE29 hE30 hE31 hE32 hE33 hE34 hE35 hE36 hE37 hE38 hE39 hE40 hE41 hE42 hE43 hE44 hE45 hE46 hE47 hE48 hX hbl (hnA b hbl) hl
