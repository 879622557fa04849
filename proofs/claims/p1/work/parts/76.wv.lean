

section QJ
variable {A0 : Nat → Prop} {D : va_G} {cl : List vw_C} {wr w1 w2 : va_W} {x : Nat × va_E} {H H0 H1 : Heap} {locs : List Loc}
theorem qj_lastP (h : va_P D cl (wr ++ [x]) H) : va_P D cl [x] H := by
  intro k q hk
  have hz : k < 1 := (List.getElem?_eq_some_iff.mp hk).1
  rw [show k = 0 by omega] at hk
  cases hk
  exact h wr.length x (by simp)
theorem qj_left {k : Nat} {q : Nat × va_E} (hk : wr[k]? = some q) : (wr ++ w1)[k]? = some q := by
  rw [List.getElem?_append_left (List.getElem?_eq_some_iff.mp hk).1]
  exact hk
theorem qj_right {k : Nat} {q : Nat × va_E} (hk : w1[k]? = some q) : (wr ++ w1)[wr.length + k]? = some q := by
  rw [List.getElem?_append_right (by omega), show wr.length + k - wr.length = k by omega]
  exact hk
theorem qj_D1 (h : va_D A0 (wr ++ w1)) : va_D A0 wr := ⟨fun i j p q hi hj e => h.1 i j p q (qj_left hi) (qj_left hj) e, fun k q hk => h.2 k q (qj_left hk)⟩
theorem qj_D2 (h : va_D A0 (wr ++ w1)) : va_D A0 w1 := ⟨fun i j p q hi hj e => by have := h.1 _ _ p q (qj_right hi) (qj_right hj) e; omega, fun k q hk => h.2 _ q (qj_right hk)⟩
theorem qj_P1 (h : va_P D cl (wr ++ w1) H) : va_P D cl wr H := fun k q hk => h k q (qj_left hk)
theorem qj_P2 (h : va_P D cl (wr ++ w1) H) : va_P D cl w1 H := fun k q hk => h _ q (qj_right hk)
theorem qj_apart (h : va_D A0 (wr ++ w1)) (i j : Nat) (p q : Nat × va_E) (hi : wr[i]? = some p) (hj : w1[j]? = some q) : p.1 ≠ q.1 := fun e => by
  have h1 := h.1 _ _ p q (qj_left hi) (qj_right hj) e
  have h2 := (List.getElem?_eq_some_iff.mp hi).1
  omega
theorem qj_free (hD : va_D A0 (wr ++ [x])) (hS : va_S A0 H0 H locs) (hA : ∀ q, H0.size ≤ q → A0 q) : ∀ q, va_A [x] H.size q → A0 q := by
  intro q h
  rcases h with ⟨k, e, h⟩ | h
  · exact (qj_D2 hD).2 k (q, e) h
  · exact hA q (Nat.le_trans hS.1 h)
theorem qj_join (hP : va_P D cl (wr ++ [x]) H) (hD : va_D A0 (wr ++ [x])) (hk : ∀ q : Nat, q < H.size → ¬ va_A [x] H.size q → H1[q]? = H[q]?) (hF : ∀ q, va_A [x] H.size q → A0 q) (hP1 : va_P D cl w1 H1) (hD1 : va_D (va_A [x] H.size) w1) : va_P D cl (wr ++ w1) H1 ∧ va_D A0 (wr ++ w1) := by
  have apart : ∀ (k : Nat) (q : Nat × va_E), wr[k]? = some q → q.1 < H.size ∧ ¬ va_A [x] H.size q.1 := by
    intro k q hq
    have hl := (qj_P1 hP k q hq).lt
    refine ⟨hl, fun h => ?_⟩
    rcases h with ⟨k2, e, h⟩ | h
    · exact qj_apart hD k k2 q (q.1, e) hq h rfl
    · omega
  refine ⟨va_P.app (fun k q hq => ?_) hP1, va_D.app (qj_D1 hD) (hD1.weaken (fun k q _ h => hF q.1 h)) (fun i j p q hp hq e => ?_)⟩
  · obtain ⟨g1, g2⟩ := apart k q hq
    exact (qj_P1 hP k q hq).kept (hk q.1 g1 g2)
  · exact (apart i p hp).2 (by rw [e]; exact hD1.2 j q hq)
theorem qj_subP (h : va_P D cl (wr ++ w1) H) (h2 : va_P D cl w2 H) : va_P D cl (wr ++ w2) H := va_P.app (qj_P1 h) h2
theorem qj_subD (h : va_D A0 (wr ++ w1)) (h2 : va_D A0 w2) (hin : ∀ (j : Nat) (q : Nat × va_E), w2[j]? = some q → ∃ i : Nat, w1[i]? = some q) : va_D A0 (wr ++ w2) := va_D.app (qj_D1 h) h2 (fun i j p q hp hq e => by
  obtain ⟨i9, h9⟩ := hin j q hq
  exact qj_apart h i i9 p q hp h9 e)
theorem qj_in (is : List Nat) (hs : is.map (fun i => w1[i]?) = w2.map some) : ∀ (j : Nat) (q : Nat × va_E), w2[j]? = some q → ∃ i : Nat, w1[i]? = some q := by
  intro j q hq
  have h1 : (is.map (fun i => w1[i]?))[j]? = some (some q) := by rw [hs, List.getElem?_map, hq]; rfl
  rw [List.getElem?_map] at h1
  cases hi : is[j]? with
  | none => rw [hi] at h1; cases h1
  | some i => rw [hi] at h1; exact ⟨i, Option.some.inj h1⟩
end QJ
