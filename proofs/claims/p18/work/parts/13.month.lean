theorem lv1_hit {k : Nat → Int32} {x : Nat} (h : k x = 3) (h2 : ¬ cpl k x < 4) : lft k x = true := by
  unfold lft
  rw [decide_eq_true h, decide_eq_true (Int32.not_lt.mp h2)]; rfl
theorem lv1_no3 {k : Nat → Int32} {x : Nat} (h : ¬ k x = 3) : lft k x = false := by
  unfold lft
  rw [decide_eq_false h]; rfl
theorem lv1_no4 {k : Nat → Int32} {x : Nat} (h2 : cpl k x < 4) : lft k x = false := by
  unfold lft
  rw [decide_eq_false (Int32.not_le.mpr h2), Bool.and_false]
theorem wtr_lv1 {k : Nat → Int32} {x : Nat} (h : wtr (k x) = true) : lv1 k x = k x := by
  unfold lv1 lft
  have h3 : ¬ k x = 3 := fun e => by rw [e] at h; revert h; decide
  rw [decide_eq_false h3]; rfl
theorem wtr_sk1 {k : Nat → Int32} {x : Nat} (h : wtr (k x) = true) : sk1 k x = k x := by
  unfold sk1
  have h2 : ¬ k x = 2 := fun e => by rw [e] at h; revert h; decide
  rw [if_neg (fun e => h2 e.1)]
theorem wtr_mon {k : Nat → Int32} {x : Nat} (h : wtr (k x) = true) : wtr (mon k x) = true := by
  unfold mon
  rw [wtr_sk1 (by rw [wtr_lv1 h]; exact h), wtr_lv1 h]; exact h
theorem wtr_itK {k : Nat → Int32} (h : wtr (k 3) = true) : ∀ n, wtr (itK k n 3) = true
  | 0 => h
  | n + 1 => wtr_mon (wtr_itK h n)
def snk (k : Nat → Int32) (x : Nat) : Prop := k x = 2 ∧ ¬ nbk k 0 x < 3
theorem sk1_yes {k : Nat → Int32} {x : Nat} (h : snk k x) : sk1 k x = 0 := if_pos ⟨h.1, Int32.not_lt.mp h.2⟩
theorem sk1_no {k : Nat → Int32} {x : Nat} (h : ¬ snk k x) : sk1 k x = k x := if_neg (fun e => h ⟨e.1, Int32.not_lt.mpr e.2⟩)
theorem snk_step {k : Nat → Int32} {i ns x : Nat} {lst : Nat → Nat} (h2 : k i = 2) (h3 : ¬ nbk k 0 i < 3) (h : (∃ j, j < ns ∧ lst j = x) ↔ x < i ∧ snk k x) : (∃ j, j < ns + 1 ∧ (fun j => if j = ns then i else lst j) j = x) ↔ x < i + 1 ∧ snk k x := by
  constructor
  · rintro ⟨j, hj, e⟩
    have e : (if j = ns then i else lst j) = x := e
    by_cases q : j = ns
    · rw [if_pos q] at e
      subst e
      exact ⟨Nat.lt_succ_self _, h2, h3⟩
    · rw [if_neg q] at e
      have := h.mp ⟨j, by omega, e⟩
      exact ⟨by omega, this.2⟩
  · rintro ⟨hx, hs⟩
    rcases Nat.lt_or_ge x i with q | q
    · obtain ⟨j, hj, e⟩ := h.mpr ⟨q, hs⟩
      exact ⟨j, by omega, by show (if j = ns then i else lst j) = x; rw [if_neg (by omega)]; exact e⟩
    · exact ⟨ns, Nat.lt_succ_self _, by show (if ns = ns then i else lst ns) = x; rw [if_pos rfl]; omega⟩
