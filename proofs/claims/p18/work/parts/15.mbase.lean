def inB (lo hi x : Int32) : Bool := decide (lo ≤ x) && decide (x ≤ hi)
theorem inB_nI {n : Nat} (h : n < 8) : inB 0 7 (nI n) = true := by
  unfold inB
  rw [decide_eq_true (nI_pos' (n := n) (by omega)), decide_eq_true (show nI n ≤ 7 from nI_le (b := 7) (by omega) (by decide))]; rfl
theorem inB_big {n : Nat} (h : 8 ≤ n) (h2 : n < 100) : inB 0 7 (nI n) = false := by
  unfold inB
  rw [decide_eq_false (show ¬ nI n ≤ 7 from nI_ge (a := 7) (by omega) (by omega)), Bool.and_false]
theorem nbR_lt {p s q : Nat} (hp : p < 64) (h : nbR p s = some q) : q < 64 := by
  match s with
  | 0 => exact nbC_lt hp (show nbC p 2 = some q from h)
  | 1 => exact nbC_lt hp (show nbC p 1 = some q from h)
  | 2 => exact nbC_lt hp (show nbC p 3 = some q from h)
  | s + 3 => exact nbC_lt hp (show nbC p 0 = some q from h)
theorem nI_m1 {q : Nat} (h : q < 2 ^ 31) : ¬ nI q = -1 := fun e => by
  have h9 : nI q < 0 := by rw [e]; decide
  exact absurd h9 (nI_pos h)
theorem lnd_ge {x : Int32} (h : kd x) : decide (2 ≤ x) = lnd x := by
  unfold lnd
  rw [decide_eq_true h.2, Bool.and_true]
theorem opo4R {k : Nat → Int32} {pt sd : Nat} (h : sd < 4) : opo k (nbR pt sd) = true → (opo k (nbC pt 0) || opo k (nbC pt 1) || opo k (nbC pt 2) || opo k (nbC pt 3)) = true :=
  four (P := fun sd => opo k (nbR pt sd) = true → (opo k (nbC pt 0) || opo k (nbC pt 1) || opo k (nbC pt 2) || opo k (nbC pt 3)) = true) h (fun e => by have e : opo k (nbC pt 2) = true := e; simp [e]) (fun e => by have e : opo k (nbC pt 1) = true := e; simp [e]) (fun e => by have e : opo k (nbC pt 3) = true := e; simp [e]) (fun e => by have e : opo k (nbC pt 0) = true := e; simp [e])
theorem qrt_land {k : Nat → Int32} {x : Nat} (h : lnd (k x) = true) : ∃ j, qrt k x = some j := by
  cases e : qrt k x with
  | none => rw [qrt_none, h] at e; cases e
  | some j => exact ⟨j, rfl⟩
/-- what a look finds -/
def LK (k Qm Op Lm Hm Mm : Nat → Int32) : Prop := hatQ k Qm ∧ (∀ x, x < 64 → Op x = b2i (opn k x)) ∧ (∀ j, j < 64 → qrt k j = some j → Lm j = lotsN k j 64) ∧ (∀ j, j < 64 → qrt k j = some j → Hm j = kindN k 3 j 64) ∧ (∀ j, j < 64 → qrt k j = some j → Mm j = kindN k 5 j 64)
/-- a row that holds what was reached from st on, each once -/
def FL (k : Nat → Int32) (bl : Bool) (st : Nat) (en : Nat) (row : Nat → Nat) (Rw St : Nat → Int32) : Prop := (∀ i, i < en → row i < 64) ∧ (∀ i, i < en → Rw i = nI (row i)) ∧ (∀ i j, i < en → j < en → row i = row j → i = j) ∧ (∀ p, (dst (PB bl k) st p).isSome = true ↔ ∃ i, i < en ∧ row i = p) ∧ en ≤ 64 ∧ ∀ x, x < 64 → St x = mkd 0 1 (dst (PB bl k) st x) 999
theorem nI_999 {n : Nat} (h : n < 900) : ¬ nI n = 999 := fun e => absurd ((nI_eq (b := 999) (by omega) (by decide)).mp e) (by omega)
