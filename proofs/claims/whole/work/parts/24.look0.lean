theorem no_root {k : Nat → Int32} {x y : Nat} (hx : x < 64) (h : ¬ qrt k y = some y) : ¬ qrt k x = some y := fun e => h (qrt_idem hx e)
theorem csum_ones : ∀ n, csum (fun _ => 1) n = nI n
  | 0 => rfl
  | n + 1 => by rw [csum, csum_ones n, nI_1]
theorem look_q {k Q3 : Nat → Int32} {y en x : Nat} {row : Nat → Nat} (g : y < 64) (hj : qrt k y = some y) (f4 : ∀ p, (dst (PB true k) y p).isSome = true ↔ ∃ i, i < en ∧ row i = p) (h1 : (∃ z, z < en ∧ row z = x) → Q3 x = nI y) (h2 : ¬ (∃ z, z < en ∧ row z = x) → Q3 x = qpt k y x) : Q3 x = qpt k (y + 1) x := by
  by_cases h : ∃ z, z < en ∧ row z = x
  · rw [h1 h, qpt_in ((qrt_root g hj).mpr ((f4 x).mpr h)) (Nat.lt_succ_self _)]
  · rw [h2 h, qpt_skip (fun e => h ((f4 x).mp ((qrt_root g hj).mp e)))]
theorem look_l {k : Nat → Int32} {y en : Nat} {row : Nat → Nat} (g : y < 64) (hj : qrt k y = some y) (f1 : ∀ i, i < en → row i < 64) (f3 : ∀ i j, i < en → j < en → row i = row j → i = j) (f4 : ∀ p, (dst (PB true k) y p).isSome = true ↔ ∃ i, i < en ∧ row i = p) : nI en = lotsN k y 64 := by
  rw [← csum_ones, csum_row (fun _ => 1) row en f1 f3 (fun p => (dst (PB true k) y p).isSome) f4]
  unfold lotsN
  refine csum_cong fun p _ => ?_
  by_cases h : (dst (PB true k) y p).isSome = true
  · rw [if_pos h, if_pos ((qrt_root g hj).mpr h)]
  · rw [if_neg h, if_neg (fun e => h ((qrt_root g hj).mp e))]
theorem look_k {k : Nat → Int32} (v : Int32) {y en : Nat} {row : Nat → Nat} (g : y < 64) (hj : qrt k y = some y) (f1 : ∀ i, i < en → row i < 64) (f3 : ∀ i j, i < en → j < en → row i = row j → i = j) (f4 : ∀ p, (dst (PB true k) y p).isSome = true ↔ ∃ i, i < en ∧ row i = p) : csum (fun z => if k (row z) = v then 1 else 0) en = kindN k v y 64 := by
  rw [csum_row (fun p => if k p = v then 1 else 0) row en f1 f3 (fun p => (dst (PB true k) y p).isSome) f4]
  unfold kindN
  refine csum_cong fun p _ => ?_
  by_cases h : (dst (PB true k) y p).isSome = true
  · rw [if_pos h, if_pos ((qrt_root g hj).mpr h)]
  · rw [if_neg h, if_neg (fun e => h ((qrt_root g hj).mp e))]
